/-! 45: the law's helpers: what is thrown becomes a number -/
abbrev cv_Hi (l : Launch) (E : cv_E) (y : MethodName) (ws : List Cond) (av : List Value) (σ : cv_S) (post : Int32 → cv_S → Prop) : Prop := ∀ sz : Nat, Met l y ws (cv_RX 8 2) (va_Pc av (cv_PreX E σ sz)) (va_Qi post (cv_B E) (cv_A E sz)) 2 (6 * 2) (cv_A E sz)
/-- the entry of a method with handlers -/
theorem cvh_in {l : Launch} {E : cv_E} {y : MethodName} {ws ws' : List Cond} {rm : Room} {av : List Value} {σ : cv_S} {cc : ByteArray} {maxL : Nat} {ret : Option FieldType} {own : String} {hh : List (Nat × Nat × Nat × Nat)} {Qc : Array Value → State → Outcome → State → Prop} {sz mc ms : Nat} (hw : ws = Cond.codeWith y cc maxL ret hh :: ws') (hy : plainName y.cls = true) (ho : y.cls = own) (hlen : (lg_sl av).length ≤ maxL)
    (body : ∀ (p : Program) (e : Env) (s : State) (m : MethodId) (below : List Frame) (meth : Method) (c : Code), CallFix p m c cc maxL s av.toArray ws own → cv_K E s → cv_KX (cv_A E s.heap.size) s s.heap → c.exceptionTable.toList = tableOf hh → meth.sig.returnType = ret → meth.locks = false → s.heap.size = sz → cv_H E σ s s.heap [] → ∀ ls : Array Slot, lv_has ls maxL (lv_args 0 av) →
      W p l e rm s m av.toArray below meth c s.heap [] 0 0 (MQ below Qc av.toArray s mc ms (cv_A E sz)) (F0 m 0 ls [])) : Met l y ws rm (va_Pc av (cv_PreX E σ sz)) Qc mc ms (cv_A E sz) := by
  refine va_MetW (hh := hh) (cc := cc) (maxL := maxL) (ret := ret) hy hw ?_
  intro p e s m args below meth c s₁ B hml hv
  obtain ⟨rfl, ⟨hsz, hP, hK⟩, hX⟩ := hv
  have hown : s.vm.findClass own = some m.cls := by rw [← ho]; exact findClass_of_methodNamed B.named
  have hl := lv_entry av (n := maxL) hlen
  rw [lg_entry_eq]
  rw [← hsz] at hX
  exact body p e s m below meth c ⟨B.exec, B.bytes, hml, hown, atoms_spec (ws := ws) B.pre⟩ hK hX (vx_table (x := y) B (atoms_spec (ws := ws) B.pre _ (by rw [hw]; exact List.mem_cons_self))) B.returns B.notSynchronized hsz ⟨hP, va_S.rf⟩ _ hl
theorem cvh_iret {p : Program} {l : Launch} {e : Env} {R : Room} {s : State} {m : MethodId} {args : Array Value} {below : List Frame} {meth : Method} {c : Code} {H : Heap} {locs : List Loc} {cells slots : Nat} {cc : ByteArray} {pc nL : Nat} {ls : Array Slot} {E : cv_E} {σ : cv_S} {own : String} {Ts : List Cond} {post : Int32 → cv_S → Prop} {sz mc ms : Nat} {v : Int32} (S : CallFix p m c cc nL s args Ts own) (hr : meth.sig.returnType = some .int) (hlocks : meth.locks = false) (hsz : s.heap.size = sz) (h : cv_H E σ s H locs) (hp : post v σ) (hcs : cells ≤ mc ∧ slots ≤ ms) (hdg : decode cc pc = .ok (.ireturn, 1)) :
    W p l e R s m args below meth c H locs cells slots (MQ below (va_Qi post (cv_B E) (cv_A E sz)) args s mc ms (cv_A E sz)) (F0 m pc ls [.int v]) := W.widen hcs.1 hcs.2 (cv_iret S hr hlocks hsz h hp hdg)

set_option maxHeartbeats 4000000 in
set_option maxRecDepth 100000 in
theorem h_make (l : Launch) (E : cv_E) (σ : cv_S) (pw : Int64) (sa rr po : Int32) {post : Int32 → cv_S → Prop} {px : String → cv_S → Prop} (hM : cv_Xi l E yX5_make wsX5_make 7 2 [.ref (E.2.1 0), .long pw, .int sa, .int rr, .int po] σ post px) (hnm : ∀ nm τ, px nm τ → nm = "java/lang/IllegalArgumentException") (hb : ∀ r τ, post r τ → r = 0 ∨ r = 1) : cv_Hi l E yL_make wsL_make [.ref (E.2.1 0), .long pw, .int sa, .int rr, .int po, .ref (E.2.1 59)] σ (fun k τ => (k = 0 ∧ ∃ r ρ, post r ρ ∧ τ = cv_uJ ρ 59 (vp_updL (ρ.2.1 59) 0 (if r = 0 then 0 else 1))) ∨ (k = 1 ∧ px "java/lang/IllegalArgumentException" τ)) := by
  intro sz
  refine cvh_in (hh := [(0, 22, 25, 13)]) (ws := wsL_make) (cc := cL_make) (maxL := 8) (ret := (some .int)) (own := RL) rfl (by decide) rfl (Nat.le_of_ble_eq_true rfl) ?_
  intro p e s m below meth c S K X ht hr hlk hsz h ls hl
  have hl : lv_has ls 8 [(0, .ref (E.2.1 0)), (1, .long pw), (3, .int sa), (4, .int rr), (5, .int po), (6, .ref (E.2.1 59))] := hl
  refine lv_aload S.1 S.2.1 dL_make_0 (lv_at hl 5 rfl) ?_
  refine lv_iconst (v := 0) S.1 S.2.1 dL_make_2 (by decide) ?_
  refine lv_aload_n S.1 S.2.1 dL_make_3 rfl (lv_at hl 0 rfl) ?_
  refine lv_lload_n S.1 S.2.1 dL_make_4 rfl (lv_at hl 1 rfl) ?_
  refine lv_iload_n S.1 S.2.1 dL_make_5 rfl (lv_at hl 2 rfl) ?_
  refine lv_iload S.1 S.2.1 dL_make_6 (lv_at hl 3 rfl) ?_
  refine lv_iload S.1 S.2.1 dL_make_8 (lv_at hl 4 rfl) ?_
  refine cvx_calli (ci := 5) (C := RX5) (T := TX5) (N := 7) S K X h hl.1 rfl rfl rfl (hM) (cwV 4 S.2.2.2.2 gL_make_X5_make rfl rfl rfl (by decide +kernel) ⟨Nat.le_of_ble_eq_true rfl, Nat.le_of_ble_eq_true rfl⟩) rfl rfl (Nat.le_of_ble_eq_true rfl) (by decide) dL_make_10 (fun nm ce q9 σx H locs hpx h hc1 hc2 hc3 => ?_) (fun rr_ σ1 H locs hpo h => ?_)
  · have hn := hnm nm σx hpx
    subst hn
    refine vx_catch (own := RL) (name := "java/lang/IllegalArgumentException") S.2.2.2.1 [] ⟨0, 22, 25, 13⟩ [] (ht.trans rfl) (fun z hz => absurd hz List.not_mem_nil) rfl (by decide) (S.2.2.2.2 (.classLink RL 13 "java/lang/IllegalArgumentException") (by decide +kernel)) (va_Nw.use rfl (X.2.2.1 _ (by decide +kernel))) hc1 hc2 hc3 ?_
    refine lv_astore (lv' := [(7, .ref q9), (0, .ref (E.2.1 0)), (1, .long pw), (3, .int sa), (4, .int rr), (5, .int po), (6, .ref (E.2.1 59))]) S.1 S.2.1 dL_make_25 hl (by decide) rfl (fun ls hl => ?_)
    refine lv_iconst (v := 1) S.1 S.2.1 dL_make_27 (by decide) ?_
    exact cvh_iret S hr hlk hsz h (Or.inr (⟨rfl, hpx⟩)) (by decide) dL_make_28
  · refine lv_if_eq (tgt := 20) S.1 S.2.1 dL_make_13 (by decide) (fun c1 => ?_) (fun c1 => ?_)
    · refine lv_lconst (v := 0) S.1 S.2.1 dL_make_20 (by decide) ?_
      refine cv_last (x := 0) S K h 59 rfl (n := 1) rfl 0 rfl (by decide) dL_make_21 (fun σ2 H locs eσ2 h => ?_)
      refine lv_goto (tgt := 29) S.1 S.2.1 dL_make_22 (by decide) ?_
      refine lv_iconst (v := 0) S.1 S.2.1 dL_make_29 (by decide) ?_
      exact cvh_iret S hr hlk hsz h (Or.inl ⟨rfl, rr_, σ1, hpo, by rw [eσ2, if_pos c1]⟩) (by decide) dL_make_30
    · refine lv_lconst (v := 1) S.1 S.2.1 dL_make_16 (by decide) ?_
      refine lv_goto (tgt := 21) S.1 S.2.1 dL_make_17 (by decide) ?_
      refine cv_last (x := 1) S K h 59 rfl (n := 1) rfl 0 rfl (by decide) dL_make_21 (fun σ3 H locs eσ3 h => ?_)
      refine lv_goto (tgt := 29) S.1 S.2.1 dL_make_22 (by decide) ?_
      refine lv_iconst (v := 0) S.1 S.2.1 dL_make_29 (by decide) ?_
      exact cvh_iret S hr hlk hsz h (Or.inl ⟨rfl, rr_, σ1, hpo, by rw [eσ3, if_neg c1]⟩) (by decide) dL_make_30

set_option maxHeartbeats 4000000 in
set_option maxRecDepth 100000 in
theorem h_open (l : Launch) (E : cv_E) (σ : cv_S) (pw : Int64) {post : Int32 → cv_S → Prop} {px : String → cv_S → Prop} (hM : cv_Xi l E yX5_open wsX5_open 7 2 [.ref (E.2.1 0), .long pw] σ post px) (hnm : ∀ nm τ, px nm τ → nm = "java/util/NoSuchElementException") : cv_Hi l E yL_open wsL_open [.ref (E.2.1 0), .long pw, .ref (E.2.1 59)] σ (fun k τ => (k = 0 ∧ ∃ r ρ, post r ρ ∧ τ = cv_uJ ρ 59 (vp_updL (ρ.2.1 59) 0 r.toInt64)) ∨ (k = 1 ∧ px "java/util/NoSuchElementException" τ)) := by
  intro sz
  refine cvh_in (hh := [(0, 9, 12, 19)]) (ws := wsL_open) (cc := cL_open) (maxL := 5) (ret := (some .int)) (own := RL) rfl (by decide) rfl (Nat.le_of_ble_eq_true rfl) ?_
  intro p e s m below meth c S K X ht hr hlk hsz h ls hl
  have hl : lv_has ls 5 [(0, .ref (E.2.1 0)), (1, .long pw), (3, .ref (E.2.1 59))] := hl
  refine lv_aload_n S.1 S.2.1 dL_open_0 rfl (lv_at hl 2 rfl) ?_
  refine lv_iconst (v := 0) S.1 S.2.1 dL_open_1 (by decide) ?_
  refine lv_aload_n S.1 S.2.1 dL_open_2 rfl (lv_at hl 0 rfl) ?_
  refine lv_lload_n S.1 S.2.1 dL_open_3 rfl (lv_at hl 1 rfl) ?_
  refine cvx_calli (ci := 5) (C := RX5) (T := TX5) (N := 7) S K X h hl.1 rfl rfl rfl (hM) (cwV 1 S.2.2.2.2 gL_open_X5_open rfl rfl rfl (by decide +kernel) ⟨Nat.le_of_ble_eq_true rfl, Nat.le_of_ble_eq_true rfl⟩) rfl rfl (Nat.le_of_ble_eq_true rfl) (by decide) dL_open_4 (fun nm ce q9 σx H locs hpx h hc1 hc2 hc3 => ?_) (fun rr_ σ4 H locs hpo h => ?_)
  · have hn := hnm nm σx hpx
    subst hn
    refine vx_catch (own := RL) (name := "java/util/NoSuchElementException") S.2.2.2.1 [] ⟨0, 9, 12, 19⟩ [] (ht.trans rfl) (fun z hz => absurd hz List.not_mem_nil) rfl (by decide) (S.2.2.2.2 (.classLink RL 19 "java/util/NoSuchElementException") (by decide +kernel)) (va_Nw.use rfl (X.2.2.1 _ (by decide +kernel))) hc1 hc2 hc3 ?_
    refine lv_astore (lv' := [(4, .ref q9), (0, .ref (E.2.1 0)), (1, .long pw), (3, .ref (E.2.1 59))]) S.1 S.2.1 dL_open_12 hl (by decide) rfl (fun ls hl => ?_)
    refine lv_iconst (v := 1) S.1 S.2.1 dL_open_14 (by decide) ?_
    exact cvh_iret S hr hlk hsz h (Or.inr (⟨rfl, hpx⟩)) (by decide) dL_open_15
  · refine lv_i2l (v := (rr_ : Int32).toInt64) S.1 S.2.1 dL_open_7 rfl ?_
    refine lv_topl (fun xv exv => ?_)
    refine cv_last (x := xv) S K h 59 rfl (n := 1) rfl 0 rfl (by decide) dL_open_8 (fun σ5 H locs eσ5 h => ?_)
    refine lv_goto (tgt := 16) S.1 S.2.1 dL_open_9 (by decide) ?_
    refine lv_iconst (v := 0) S.1 S.2.1 dL_open_16 (by decide) ?_
    exact cvh_iret S hr hlk hsz h (Or.inl ⟨rfl, rr_, σ4, hpo, by rw [eσ5, exv]⟩) (by decide) dL_open_17

set_option maxHeartbeats 4000000 in
set_option maxRecDepth 100000 in
theorem h_length (l : Launch) (E : cv_E) (σ : cv_S)  {post : Int32 → cv_S → Prop} {px : String → cv_S → Prop} (hM : cv_Xi l E yX5_length wsX5_length 7 2 [.ref (E.2.1 0)] σ post px) (hnm : ∀ nm τ, px nm τ → nm = "java/lang/IllegalStateException") : cv_Hi l E yL_length wsL_length [.ref (E.2.1 0), .ref (E.2.1 59)] σ (fun k τ => (k = 0 ∧ ∃ r ρ, post r ρ ∧ τ = cv_uJ ρ 59 (vp_updL (ρ.2.1 59) 0 r.toInt64)) ∨ (k = 1 ∧ px "java/lang/IllegalStateException" τ)) := by
  intro sz
  refine cvh_in (hh := [(0, 8, 11, 25)]) (ws := wsL_length) (cc := cL_length) (maxL := 3) (ret := (some .int)) (own := RL) rfl (by decide) rfl (Nat.le_of_ble_eq_true rfl) ?_
  intro p e s m below meth c S K X ht hr hlk hsz h ls hl
  have hl : lv_has ls 3 [(0, .ref (E.2.1 0)), (1, .ref (E.2.1 59))] := hl
  refine lv_aload_n S.1 S.2.1 dL_length_0 rfl (lv_at hl 1 rfl) ?_
  refine lv_iconst (v := 0) S.1 S.2.1 dL_length_1 (by decide) ?_
  refine lv_aload_n S.1 S.2.1 dL_length_2 rfl (lv_at hl 0 rfl) ?_
  refine cvx_calli (ci := 5) (C := RX5) (T := TX5) (N := 7) S K X h hl.1 rfl rfl rfl (hM) (cwV 0 S.2.2.2.2 gL_length_X5_length rfl rfl rfl (by decide +kernel) ⟨Nat.le_of_ble_eq_true rfl, Nat.le_of_ble_eq_true rfl⟩) rfl rfl (Nat.le_of_ble_eq_true rfl) (by decide) dL_length_3 (fun nm ce q9 σx H locs hpx h hc1 hc2 hc3 => ?_) (fun rr_ σ6 H locs hpo h => ?_)
  · have hn := hnm nm σx hpx
    subst hn
    refine vx_catch (own := RL) (name := "java/lang/IllegalStateException") S.2.2.2.1 [] ⟨0, 8, 11, 25⟩ [] (ht.trans rfl) (fun z hz => absurd hz List.not_mem_nil) rfl (by decide) (S.2.2.2.2 (.classLink RL 25 "java/lang/IllegalStateException") (by decide +kernel)) (va_Nw.use rfl (X.2.2.1 _ (by decide +kernel))) hc1 hc2 hc3 ?_
    refine lv_astore_n (lv' := [(2, .ref q9), (0, .ref (E.2.1 0)), (1, .ref (E.2.1 59))]) S.1 S.2.1 dL_length_11 rfl hl (by decide) rfl (fun ls hl => ?_)
    refine lv_iconst (v := 1) S.1 S.2.1 dL_length_12 (by decide) ?_
    exact cvh_iret S hr hlk hsz h (Or.inr (⟨rfl, hpx⟩)) (by decide) dL_length_13
  · refine lv_i2l (v := (rr_ : Int32).toInt64) S.1 S.2.1 dL_length_6 rfl ?_
    refine lv_topl (fun xv exv => ?_)
    refine cv_last (x := xv) S K h 59 rfl (n := 1) rfl 0 rfl (by decide) dL_length_7 (fun σ7 H locs eσ7 h => ?_)
    refine lv_goto (tgt := 14) S.1 S.2.1 dL_length_8 (by decide) ?_
    refine lv_iconst (v := 0) S.1 S.2.1 dL_length_14 (by decide) ?_
    exact cvh_iret S hr hlk hsz h (Or.inl ⟨rfl, rr_, σ6, hpo, by rw [eσ7, exv]⟩) (by decide) dL_length_15

set_option maxHeartbeats 4000000 in
set_option maxRecDepth 100000 in
theorem h_save (l : Launch) (E : cv_E) (σ : cv_S) (po : Int32) {post : Int32 → cv_S → Prop} {px : String → cv_S → Prop} (hM : cv_Xi l E yX5_save wsX5_save 7 2 [.ref (E.2.1 0), .int po] σ post px) (hnm : ∀ nm τ, px nm τ → nm = "java/lang/IllegalStateException" ∨ nm = "java/lang/IllegalArgumentException") (hb : ∀ r τ, post r τ → r = 0 ∨ r = 1) : cv_Hi l E yL_save wsL_save [.ref (E.2.1 0), .int po, .ref (E.2.1 59)] σ (fun k τ => (k = 0 ∧ ∃ r ρ, post r ρ ∧ τ = cv_uJ ρ 59 (vp_updL (ρ.2.1 59) 0 (if r = 0 then 0 else 1))) ∨ (k = 1 ∧ px "java/lang/IllegalStateException" τ) ∨ (k = 2 ∧ px "java/lang/IllegalArgumentException" τ)) := by
  intro sz
  refine cvh_in (hh := [(0, 16, 19, 25), (0, 16, 22, 13)]) (ws := wsL_save) (cc := cL_save) (maxL := 4) (ret := (some .int)) (own := RL) rfl (by decide) rfl (Nat.le_of_ble_eq_true rfl) ?_
  intro p e s m below meth c S K X ht hr hlk hsz h ls hl
  have hl : lv_has ls 4 [(0, .ref (E.2.1 0)), (1, .int po), (2, .ref (E.2.1 59))] := hl
  refine lv_aload_n S.1 S.2.1 dL_save_0 rfl (lv_at hl 2 rfl) ?_
  refine lv_iconst (v := 0) S.1 S.2.1 dL_save_1 (by decide) ?_
  refine lv_aload_n S.1 S.2.1 dL_save_2 rfl (lv_at hl 0 rfl) ?_
  refine lv_iload_n S.1 S.2.1 dL_save_3 rfl (lv_at hl 1 rfl) ?_
  refine cvx_calli (ci := 5) (C := RX5) (T := TX5) (N := 7) S K X h hl.1 rfl rfl rfl (hM) (cwV 1 S.2.2.2.2 gL_save_X5_save rfl rfl rfl (by decide +kernel) ⟨Nat.le_of_ble_eq_true rfl, Nat.le_of_ble_eq_true rfl⟩) rfl rfl (Nat.le_of_ble_eq_true rfl) (by decide) dL_save_4 (fun nm ce q9 σx H locs hpx h hc1 hc2 hc3 => ?_) (fun rr_ σ8 H locs hpo h => ?_)
  · rcases hnm nm σx hpx with hn | hn
    · subst hn
      refine vx_catch (own := RL) (name := "java/lang/IllegalStateException") S.2.2.2.1 [] ⟨0, 16, 19, 25⟩ [⟨0, 16, 22, 13⟩] (ht.trans rfl) (fun z hz => absurd hz List.not_mem_nil) rfl (by decide) (S.2.2.2.2 (.classLink RL 25 "java/lang/IllegalStateException") (by decide +kernel)) (va_Nw.use rfl (X.2.2.1 _ (by decide +kernel))) hc1 hc2 hc3 ?_
      refine lv_astore_n (lv' := [(3, .ref q9), (0, .ref (E.2.1 0)), (1, .int po), (2, .ref (E.2.1 59))]) S.1 S.2.1 dL_save_19 rfl hl (by decide) rfl (fun ls hl => ?_)
      refine lv_iconst (v := 1) S.1 S.2.1 dL_save_20 (by decide) ?_
      exact cvh_iret S hr hlk hsz h (Or.inr (Or.inl ⟨rfl, hpx⟩)) (by decide) dL_save_21
    · subst hn
      refine vx_catch (own := RL) (name := "java/lang/IllegalArgumentException") S.2.2.2.1 [⟨0, 16, 19, 25⟩] ⟨0, 16, 22, 13⟩ [] (ht.trans rfl) (List.forall_mem_cons.mpr ⟨Or.inr ⟨(by decide), "java/lang/IllegalStateException", S.2.2.2.2 (.classLink RL 25 "java/lang/IllegalStateException") (by decide +kernel), X.2.2.2 ("java/lang/IllegalArgumentException", "java/lang/IllegalStateException") (by decide +kernel)⟩, fun z hz => absurd hz List.not_mem_nil⟩) rfl (by decide) (S.2.2.2.2 (.classLink RL 13 "java/lang/IllegalArgumentException") (by decide +kernel)) (va_Nw.use rfl (X.2.2.1 _ (by decide +kernel))) hc1 hc2 hc3 ?_
      refine lv_astore_n (lv' := [(3, .ref q9), (0, .ref (E.2.1 0)), (1, .int po), (2, .ref (E.2.1 59))]) S.1 S.2.1 dL_save_22 rfl hl (by decide) rfl (fun ls hl => ?_)
      refine lv_iconst (v := 2) S.1 S.2.1 dL_save_23 (by decide) ?_
      exact cvh_iret S hr hlk hsz h (Or.inr (Or.inr (⟨rfl, hpx⟩))) (by decide) dL_save_24
  · refine lv_if_eq (tgt := 14) S.1 S.2.1 dL_save_7 (by decide) (fun c1 => ?_) (fun c1 => ?_)
    · refine lv_lconst (v := 0) S.1 S.2.1 dL_save_14 (by decide) ?_
      refine cv_last (x := 0) S K h 59 rfl (n := 1) rfl 0 rfl (by decide) dL_save_15 (fun σ9 H locs eσ9 h => ?_)
      refine lv_goto (tgt := 25) S.1 S.2.1 dL_save_16 (by decide) ?_
      refine lv_iconst (v := 0) S.1 S.2.1 dL_save_25 (by decide) ?_
      exact cvh_iret S hr hlk hsz h (Or.inl ⟨rfl, rr_, σ8, hpo, by rw [eσ9, if_pos c1]⟩) (by decide) dL_save_26
    · refine lv_lconst (v := 1) S.1 S.2.1 dL_save_10 (by decide) ?_
      refine lv_goto (tgt := 15) S.1 S.2.1 dL_save_11 (by decide) ?_
      refine cv_last (x := 1) S K h 59 rfl (n := 1) rfl 0 rfl (by decide) dL_save_15 (fun σ10 H locs eσ10 h => ?_)
      refine lv_goto (tgt := 25) S.1 S.2.1 dL_save_16 (by decide) ?_
      refine lv_iconst (v := 0) S.1 S.2.1 dL_save_25 (by decide) ?_
      exact cvh_iret S hr hlk hsz h (Or.inl ⟨rfl, rr_, σ8, hpo, by rw [eσ10, if_neg c1]⟩) (by decide) dL_save_26

set_option maxHeartbeats 4000000 in
set_option maxRecDepth 100000 in
theorem h_renew (l : Launch) (E : cv_E) (σ : cv_S) (pw : Int64) (rr : Int32) {post : cv_S → Prop} {px : String → cv_S → Prop} (hM : cv_Xv l E yX5_renew wsX5_renew 7 2 [.ref (E.2.1 0), .long pw, .int rr] σ post px) (hnm : ∀ nm τ, px nm τ → nm = "java/lang/IllegalStateException" ∨ nm = "java/lang/IllegalArgumentException") : cv_Hi l E yL_renew wsL_renew [.ref (E.2.1 0), .long pw, .int rr] σ (fun k τ => (k = 0 ∧ post τ) ∨ (k = 1 ∧ px "java/lang/IllegalStateException" τ) ∨ (k = 2 ∧ px "java/lang/IllegalArgumentException" τ)) := by
  intro sz
  refine cvh_in (hh := [(0, 6, 9, 25), (0, 6, 13, 13)]) (ws := wsL_renew) (cc := cL_renew) (maxL := 5) (ret := (some .int)) (own := RL) rfl (by decide) rfl (Nat.le_of_ble_eq_true rfl) ?_
  intro p e s m below meth c S K X ht hr hlk hsz h ls hl
  have hl : lv_has ls 5 [(0, .ref (E.2.1 0)), (1, .long pw), (3, .int rr)] := hl
  refine lv_aload_n S.1 S.2.1 dL_renew_0 rfl (lv_at hl 0 rfl) ?_
  refine lv_lload_n S.1 S.2.1 dL_renew_1 rfl (lv_at hl 1 rfl) ?_
  refine lv_iload_n S.1 S.2.1 dL_renew_2 rfl (lv_at hl 2 rfl) ?_
  refine cvx_callv (ci := 5) (C := RX5) (T := TX5) (N := 7) S K X h hl.1 rfl rfl rfl (hM) (cwV 2 S.2.2.2.2 gL_renew_X5_renew rfl rfl rfl (by decide +kernel) ⟨Nat.le_of_ble_eq_true rfl, Nat.le_of_ble_eq_true rfl⟩) rfl rfl (Nat.le_of_ble_eq_true rfl) (by decide) dL_renew_3 (fun nm ce q9 σx H locs hpx h hc1 hc2 hc3 => ?_) (fun σ11 H locs hpo h => ?_)
  · rcases hnm nm σx hpx with hn | hn
    · subst hn
      refine vx_catch (own := RL) (name := "java/lang/IllegalStateException") S.2.2.2.1 [] ⟨0, 6, 9, 25⟩ [⟨0, 6, 13, 13⟩] (ht.trans rfl) (fun z hz => absurd hz List.not_mem_nil) rfl (by decide) (S.2.2.2.2 (.classLink RL 25 "java/lang/IllegalStateException") (by decide +kernel)) (va_Nw.use rfl (X.2.2.1 _ (by decide +kernel))) hc1 hc2 hc3 ?_
      refine lv_astore (lv' := [(4, .ref q9), (0, .ref (E.2.1 0)), (1, .long pw), (3, .int rr)]) S.1 S.2.1 dL_renew_9 hl (by decide) rfl (fun ls hl => ?_)
      refine lv_iconst (v := 1) S.1 S.2.1 dL_renew_11 (by decide) ?_
      exact cvh_iret S hr hlk hsz h (Or.inr (Or.inl ⟨rfl, hpx⟩)) (by decide) dL_renew_12
    · subst hn
      refine vx_catch (own := RL) (name := "java/lang/IllegalArgumentException") S.2.2.2.1 [⟨0, 6, 9, 25⟩] ⟨0, 6, 13, 13⟩ [] (ht.trans rfl) (List.forall_mem_cons.mpr ⟨Or.inr ⟨(by decide), "java/lang/IllegalStateException", S.2.2.2.2 (.classLink RL 25 "java/lang/IllegalStateException") (by decide +kernel), X.2.2.2 ("java/lang/IllegalArgumentException", "java/lang/IllegalStateException") (by decide +kernel)⟩, fun z hz => absurd hz List.not_mem_nil⟩) rfl (by decide) (S.2.2.2.2 (.classLink RL 13 "java/lang/IllegalArgumentException") (by decide +kernel)) (va_Nw.use rfl (X.2.2.1 _ (by decide +kernel))) hc1 hc2 hc3 ?_
      refine lv_astore (lv' := [(4, .ref q9), (0, .ref (E.2.1 0)), (1, .long pw), (3, .int rr)]) S.1 S.2.1 dL_renew_13 hl (by decide) rfl (fun ls hl => ?_)
      refine lv_iconst (v := 2) S.1 S.2.1 dL_renew_15 (by decide) ?_
      exact cvh_iret S hr hlk hsz h (Or.inr (Or.inr (⟨rfl, hpx⟩))) (by decide) dL_renew_16
  · refine lv_goto (tgt := 17) S.1 S.2.1 dL_renew_6 (by decide) ?_
    refine lv_iconst (v := 0) S.1 S.2.1 dL_renew_17 (by decide) ?_
    exact cvh_iret S hr hlk hsz h (Or.inl ⟨rfl, hpo⟩) (by decide) dL_renew_18

set_option maxHeartbeats 4000000 in
set_option maxRecDepth 100000 in
theorem h_serial (l : Launch) (E : cv_E) (σ : cv_S)  {post : Int32 → cv_S → Prop} {px : String → cv_S → Prop} (hM : cv_Xi l E yX5_serial wsX5_serial 7 2 [.ref (E.2.1 0)] σ post px) (hnm : ∀ nm τ, px nm τ → nm = "java/lang/IllegalStateException") : cv_Hi l E yL_serial wsL_serial [.ref (E.2.1 0), .ref (E.2.1 59)] σ (fun k τ => (k = 0 ∧ ∃ r ρ, post r ρ ∧ τ = cv_uJ ρ 59 (vp_updL (ρ.2.1 59) 0 r.toInt64)) ∨ (k = 1 ∧ px "java/lang/IllegalStateException" τ)) := by
  intro sz
  refine cvh_in (hh := [(0, 8, 11, 25)]) (ws := wsL_serial) (cc := cL_serial) (maxL := 3) (ret := (some .int)) (own := RL) rfl (by decide) rfl (Nat.le_of_ble_eq_true rfl) ?_
  intro p e s m below meth c S K X ht hr hlk hsz h ls hl
  have hl : lv_has ls 3 [(0, .ref (E.2.1 0)), (1, .ref (E.2.1 59))] := hl
  refine lv_aload_n S.1 S.2.1 dL_serial_0 rfl (lv_at hl 1 rfl) ?_
  refine lv_iconst (v := 0) S.1 S.2.1 dL_serial_1 (by decide) ?_
  refine lv_aload_n S.1 S.2.1 dL_serial_2 rfl (lv_at hl 0 rfl) ?_
  refine cvx_calli (ci := 5) (C := RX5) (T := TX5) (N := 7) S K X h hl.1 rfl rfl rfl (hM) (cwV 0 S.2.2.2.2 gL_serial_X5_serial rfl rfl rfl (by decide +kernel) ⟨Nat.le_of_ble_eq_true rfl, Nat.le_of_ble_eq_true rfl⟩) rfl rfl (Nat.le_of_ble_eq_true rfl) (by decide) dL_serial_3 (fun nm ce q9 σx H locs hpx h hc1 hc2 hc3 => ?_) (fun rr_ σ12 H locs hpo h => ?_)
  · have hn := hnm nm σx hpx
    subst hn
    refine vx_catch (own := RL) (name := "java/lang/IllegalStateException") S.2.2.2.1 [] ⟨0, 8, 11, 25⟩ [] (ht.trans rfl) (fun z hz => absurd hz List.not_mem_nil) rfl (by decide) (S.2.2.2.2 (.classLink RL 25 "java/lang/IllegalStateException") (by decide +kernel)) (va_Nw.use rfl (X.2.2.1 _ (by decide +kernel))) hc1 hc2 hc3 ?_
    refine lv_astore_n (lv' := [(2, .ref q9), (0, .ref (E.2.1 0)), (1, .ref (E.2.1 59))]) S.1 S.2.1 dL_serial_11 rfl hl (by decide) rfl (fun ls hl => ?_)
    refine lv_iconst (v := 1) S.1 S.2.1 dL_serial_12 (by decide) ?_
    exact cvh_iret S hr hlk hsz h (Or.inr (⟨rfl, hpx⟩)) (by decide) dL_serial_13
  · refine lv_i2l (v := (rr_ : Int32).toInt64) S.1 S.2.1 dL_serial_6 rfl ?_
    refine lv_topl (fun xv exv => ?_)
    refine cv_last (x := xv) S K h 59 rfl (n := 1) rfl 0 rfl (by decide) dL_serial_7 (fun σ13 H locs eσ13 h => ?_)
    refine lv_goto (tgt := 14) S.1 S.2.1 dL_serial_8 (by decide) ?_
    refine lv_iconst (v := 0) S.1 S.2.1 dL_serial_14 (by decide) ?_
    exact cvh_iret S hr hlk hsz h (Or.inl ⟨rfl, rr_, σ12, hpo, by rw [eσ13, exv]⟩) (by decide) dL_serial_15

set_option maxHeartbeats 4000000 in
set_option maxRecDepth 100000 in
theorem h_put (l : Launch) (E : cv_E) (σ : cv_S) (nm xv : Int64) {post : Int32 → cv_S → Prop} {px : String → cv_S → Prop} (hM : cv_Xi l E yX5_put wsX5_put 7 2 [.ref (E.2.1 0), .long nm, .long xv] σ post px) (hnm : ∀ nm τ, px nm τ → nm = "java/lang/IllegalStateException" ∨ nm = "java/lang/IllegalArgumentException" ∨ nm = "java/lang/UnsupportedOperationException") (hb : ∀ r τ, post r τ → r = 0 ∨ r = 1) : cv_Hi l E yL_put wsL_put [.ref (E.2.1 0), .long nm, .long xv, .ref (E.2.1 59)] σ (fun k τ => (k = 0 ∧ ∃ r ρ, post r ρ ∧ τ = cv_uJ ρ 59 (vp_updL (ρ.2.1 59) 0 (if r = 0 then 0 else 1))) ∨ (k = 1 ∧ px "java/lang/IllegalStateException" τ) ∨ (k = 2 ∧ px "java/lang/IllegalArgumentException" τ) ∨ (k = 3 ∧ px "java/lang/UnsupportedOperationException" τ)) := by
  intro sz
  refine cvh_in (hh := [(0, 18, 21, 25), (0, 18, 25, 13), (0, 18, 29, 42)]) (ws := wsL_put) (cc := cL_put) (maxL := 7) (ret := (some .int)) (own := RL) rfl (by decide) rfl (Nat.le_of_ble_eq_true rfl) ?_
  intro p e s m below meth c S K X ht hr hlk hsz h ls hl
  have hl : lv_has ls 7 [(0, .ref (E.2.1 0)), (1, .long nm), (3, .long xv), (5, .ref (E.2.1 59))] := hl
  refine lv_aload S.1 S.2.1 dL_put_0 (lv_at hl 3 rfl) ?_
  refine lv_iconst (v := 0) S.1 S.2.1 dL_put_2 (by decide) ?_
  refine lv_aload_n S.1 S.2.1 dL_put_3 rfl (lv_at hl 0 rfl) ?_
  refine lv_lload_n S.1 S.2.1 dL_put_4 rfl (lv_at hl 1 rfl) ?_
  refine lv_lload_n S.1 S.2.1 dL_put_5 rfl (lv_at hl 2 rfl) ?_
  refine cvx_calli (ci := 5) (C := RX5) (T := TX5) (N := 7) S K X h hl.1 rfl rfl rfl (hM) (cwV 2 S.2.2.2.2 gL_put_X5_put rfl rfl rfl (by decide +kernel) ⟨Nat.le_of_ble_eq_true rfl, Nat.le_of_ble_eq_true rfl⟩) rfl rfl (Nat.le_of_ble_eq_true rfl) (by decide) dL_put_6 (fun nm ce q9 σx H locs hpx h hc1 hc2 hc3 => ?_) (fun rr_ σ14 H locs hpo h => ?_)
  · rcases hnm nm σx hpx with hn | hn | hn
    · subst hn
      refine vx_catch (own := RL) (name := "java/lang/IllegalStateException") S.2.2.2.1 [] ⟨0, 18, 21, 25⟩ [⟨0, 18, 25, 13⟩, ⟨0, 18, 29, 42⟩] (ht.trans rfl) (fun z hz => absurd hz List.not_mem_nil) rfl (by decide) (S.2.2.2.2 (.classLink RL 25 "java/lang/IllegalStateException") (by decide +kernel)) (va_Nw.use rfl (X.2.2.1 _ (by decide +kernel))) hc1 hc2 hc3 ?_
      refine lv_astore (lv' := [(6, .ref q9), (0, .ref (E.2.1 0)), (1, .long nm), (3, .long xv), (5, .ref (E.2.1 59))]) S.1 S.2.1 dL_put_21 hl (by decide) rfl (fun ls hl => ?_)
      refine lv_iconst (v := 1) S.1 S.2.1 dL_put_23 (by decide) ?_
      exact cvh_iret S hr hlk hsz h (Or.inr (Or.inl ⟨rfl, hpx⟩)) (by decide) dL_put_24
    · subst hn
      refine vx_catch (own := RL) (name := "java/lang/IllegalArgumentException") S.2.2.2.1 [⟨0, 18, 21, 25⟩] ⟨0, 18, 25, 13⟩ [⟨0, 18, 29, 42⟩] (ht.trans rfl) (List.forall_mem_cons.mpr ⟨Or.inr ⟨(by decide), "java/lang/IllegalStateException", S.2.2.2.2 (.classLink RL 25 "java/lang/IllegalStateException") (by decide +kernel), X.2.2.2 ("java/lang/IllegalArgumentException", "java/lang/IllegalStateException") (by decide +kernel)⟩, fun z hz => absurd hz List.not_mem_nil⟩) rfl (by decide) (S.2.2.2.2 (.classLink RL 13 "java/lang/IllegalArgumentException") (by decide +kernel)) (va_Nw.use rfl (X.2.2.1 _ (by decide +kernel))) hc1 hc2 hc3 ?_
      refine lv_astore (lv' := [(6, .ref q9), (0, .ref (E.2.1 0)), (1, .long nm), (3, .long xv), (5, .ref (E.2.1 59))]) S.1 S.2.1 dL_put_25 hl (by decide) rfl (fun ls hl => ?_)
      refine lv_iconst (v := 2) S.1 S.2.1 dL_put_27 (by decide) ?_
      exact cvh_iret S hr hlk hsz h (Or.inr (Or.inr (Or.inl ⟨rfl, hpx⟩))) (by decide) dL_put_28
    · subst hn
      refine vx_catch (own := RL) (name := "java/lang/UnsupportedOperationException") S.2.2.2.1 [⟨0, 18, 21, 25⟩, ⟨0, 18, 25, 13⟩] ⟨0, 18, 29, 42⟩ [] (ht.trans rfl) (List.forall_mem_cons.mpr ⟨Or.inr ⟨(by decide), "java/lang/IllegalStateException", S.2.2.2.2 (.classLink RL 25 "java/lang/IllegalStateException") (by decide +kernel), X.2.2.2 ("java/lang/UnsupportedOperationException", "java/lang/IllegalStateException") (by decide +kernel)⟩, List.forall_mem_cons.mpr ⟨Or.inr ⟨(by decide), "java/lang/IllegalArgumentException", S.2.2.2.2 (.classLink RL 13 "java/lang/IllegalArgumentException") (by decide +kernel), X.2.2.2 ("java/lang/UnsupportedOperationException", "java/lang/IllegalArgumentException") (by decide +kernel)⟩, fun z hz => absurd hz List.not_mem_nil⟩⟩) rfl (by decide) (S.2.2.2.2 (.classLink RL 42 "java/lang/UnsupportedOperationException") (by decide +kernel)) (va_Nw.use rfl (X.2.2.1 _ (by decide +kernel))) hc1 hc2 hc3 ?_
      refine lv_astore (lv' := [(6, .ref q9), (0, .ref (E.2.1 0)), (1, .long nm), (3, .long xv), (5, .ref (E.2.1 59))]) S.1 S.2.1 dL_put_29 hl (by decide) rfl (fun ls hl => ?_)
      refine lv_iconst (v := 3) S.1 S.2.1 dL_put_31 (by decide) ?_
      exact cvh_iret S hr hlk hsz h (Or.inr (Or.inr (Or.inr (⟨rfl, hpx⟩)))) (by decide) dL_put_32
  · refine lv_if_eq (tgt := 16) S.1 S.2.1 dL_put_9 (by decide) (fun c1 => ?_) (fun c1 => ?_)
    · refine lv_lconst (v := 0) S.1 S.2.1 dL_put_16 (by decide) ?_
      refine cv_last (x := 0) S K h 59 rfl (n := 1) rfl 0 rfl (by decide) dL_put_17 (fun σ15 H locs eσ15 h => ?_)
      refine lv_goto (tgt := 33) S.1 S.2.1 dL_put_18 (by decide) ?_
      refine lv_iconst (v := 0) S.1 S.2.1 dL_put_33 (by decide) ?_
      exact cvh_iret S hr hlk hsz h (Or.inl ⟨rfl, rr_, σ14, hpo, by rw [eσ15, if_pos c1]⟩) (by decide) dL_put_34
    · refine lv_lconst (v := 1) S.1 S.2.1 dL_put_12 (by decide) ?_
      refine lv_goto (tgt := 17) S.1 S.2.1 dL_put_13 (by decide) ?_
      refine cv_last (x := 1) S K h 59 rfl (n := 1) rfl 0 rfl (by decide) dL_put_17 (fun σ16 H locs eσ16 h => ?_)
      refine lv_goto (tgt := 33) S.1 S.2.1 dL_put_18 (by decide) ?_
      refine lv_iconst (v := 0) S.1 S.2.1 dL_put_33 (by decide) ?_
      exact cvh_iret S hr hlk hsz h (Or.inl ⟨rfl, rr_, σ14, hpo, by rw [eσ16, if_neg c1]⟩) (by decide) dL_put_34

set_option maxHeartbeats 4000000 in
set_option maxRecDepth 100000 in
theorem h_remove (l : Launch) (E : cv_E) (σ : cv_S) (nm : Int64) {post : Int32 → cv_S → Prop} {px : String → cv_S → Prop} (hM : cv_Xi l E yX5_remove wsX5_remove 7 2 [.ref (E.2.1 0), .long nm] σ post px) (hnm : ∀ nm τ, px nm τ → nm = "java/lang/IllegalStateException") (hb : ∀ r τ, post r τ → r = 0 ∨ r = 1) : cv_Hi l E yL_remove wsL_remove [.ref (E.2.1 0), .long nm, .ref (E.2.1 59)] σ (fun k τ => (k = 0 ∧ ∃ r ρ, post r ρ ∧ τ = cv_uJ ρ 59 (vp_updL (ρ.2.1 59) 0 (if r = 0 then 0 else 1))) ∨ (k = 1 ∧ px "java/lang/IllegalStateException" τ)) := by
  intro sz
  refine cvh_in (hh := [(0, 16, 19, 25)]) (ws := wsL_remove) (cc := cL_remove) (maxL := 5) (ret := (some .int)) (own := RL) rfl (by decide) rfl (Nat.le_of_ble_eq_true rfl) ?_
  intro p e s m below meth c S K X ht hr hlk hsz h ls hl
  have hl : lv_has ls 5 [(0, .ref (E.2.1 0)), (1, .long nm), (3, .ref (E.2.1 59))] := hl
  refine lv_aload_n S.1 S.2.1 dL_remove_0 rfl (lv_at hl 2 rfl) ?_
  refine lv_iconst (v := 0) S.1 S.2.1 dL_remove_1 (by decide) ?_
  refine lv_aload_n S.1 S.2.1 dL_remove_2 rfl (lv_at hl 0 rfl) ?_
  refine lv_lload_n S.1 S.2.1 dL_remove_3 rfl (lv_at hl 1 rfl) ?_
  refine cvx_calli (ci := 5) (C := RX5) (T := TX5) (N := 7) S K X h hl.1 rfl rfl rfl (hM) (cwV 1 S.2.2.2.2 gL_remove_X5_remove rfl rfl rfl (by decide +kernel) ⟨Nat.le_of_ble_eq_true rfl, Nat.le_of_ble_eq_true rfl⟩) rfl rfl (Nat.le_of_ble_eq_true rfl) (by decide) dL_remove_4 (fun nm ce q9 σx H locs hpx h hc1 hc2 hc3 => ?_) (fun rr_ σ17 H locs hpo h => ?_)
  · have hn := hnm nm σx hpx
    subst hn
    refine vx_catch (own := RL) (name := "java/lang/IllegalStateException") S.2.2.2.1 [] ⟨0, 16, 19, 25⟩ [] (ht.trans rfl) (fun z hz => absurd hz List.not_mem_nil) rfl (by decide) (S.2.2.2.2 (.classLink RL 25 "java/lang/IllegalStateException") (by decide +kernel)) (va_Nw.use rfl (X.2.2.1 _ (by decide +kernel))) hc1 hc2 hc3 ?_
    refine lv_astore (lv' := [(4, .ref q9), (0, .ref (E.2.1 0)), (1, .long nm), (3, .ref (E.2.1 59))]) S.1 S.2.1 dL_remove_19 hl (by decide) rfl (fun ls hl => ?_)
    refine lv_iconst (v := 1) S.1 S.2.1 dL_remove_21 (by decide) ?_
    exact cvh_iret S hr hlk hsz h (Or.inr (⟨rfl, hpx⟩)) (by decide) dL_remove_22
  · refine lv_if_eq (tgt := 14) S.1 S.2.1 dL_remove_7 (by decide) (fun c1 => ?_) (fun c1 => ?_)
    · refine lv_lconst (v := 0) S.1 S.2.1 dL_remove_14 (by decide) ?_
      refine cv_last (x := 0) S K h 59 rfl (n := 1) rfl 0 rfl (by decide) dL_remove_15 (fun σ18 H locs eσ18 h => ?_)
      refine lv_goto (tgt := 23) S.1 S.2.1 dL_remove_16 (by decide) ?_
      refine lv_iconst (v := 0) S.1 S.2.1 dL_remove_23 (by decide) ?_
      exact cvh_iret S hr hlk hsz h (Or.inl ⟨rfl, rr_, σ17, hpo, by rw [eσ18, if_pos c1]⟩) (by decide) dL_remove_24
    · refine lv_lconst (v := 1) S.1 S.2.1 dL_remove_10 (by decide) ?_
      refine lv_goto (tgt := 15) S.1 S.2.1 dL_remove_11 (by decide) ?_
      refine cv_last (x := 1) S K h 59 rfl (n := 1) rfl 0 rfl (by decide) dL_remove_15 (fun σ19 H locs eσ19 h => ?_)
      refine lv_goto (tgt := 23) S.1 S.2.1 dL_remove_16 (by decide) ?_
      refine lv_iconst (v := 0) S.1 S.2.1 dL_remove_23 (by decide) ?_
      exact cvh_iret S hr hlk hsz h (Or.inl ⟨rfl, rr_, σ17, hpo, by rw [eσ19, if_neg c1]⟩) (by decide) dL_remove_24

set_option maxHeartbeats 4000000 in
set_option maxRecDepth 100000 in
theorem h_entries (l : Launch) (E : cv_E) (σ : cv_S)  {post : Int32 → cv_S → Prop} {px : String → cv_S → Prop} (hM : cv_Xi l E yX5_entries wsX5_entries 7 2 [.ref (E.2.1 0)] σ post px) (hnm : ∀ nm τ, px nm τ → nm = "java/lang/IllegalStateException") : cv_Hi l E yL_entries wsL_entries [.ref (E.2.1 0), .ref (E.2.1 59)] σ (fun k τ => (k = 0 ∧ ∃ r ρ, post r ρ ∧ τ = cv_uJ ρ 59 (vp_updL (ρ.2.1 59) 0 r.toInt64)) ∨ (k = 1 ∧ px "java/lang/IllegalStateException" τ)) := by
  intro sz
  refine cvh_in (hh := [(0, 8, 11, 25)]) (ws := wsL_entries) (cc := cL_entries) (maxL := 3) (ret := (some .int)) (own := RL) rfl (by decide) rfl (Nat.le_of_ble_eq_true rfl) ?_
  intro p e s m below meth c S K X ht hr hlk hsz h ls hl
  have hl : lv_has ls 3 [(0, .ref (E.2.1 0)), (1, .ref (E.2.1 59))] := hl
  refine lv_aload_n S.1 S.2.1 dL_entries_0 rfl (lv_at hl 1 rfl) ?_
  refine lv_iconst (v := 0) S.1 S.2.1 dL_entries_1 (by decide) ?_
  refine lv_aload_n S.1 S.2.1 dL_entries_2 rfl (lv_at hl 0 rfl) ?_
  refine cvx_calli (ci := 5) (C := RX5) (T := TX5) (N := 7) S K X h hl.1 rfl rfl rfl (hM) (cwV 0 S.2.2.2.2 gL_entries_X5_entries rfl rfl rfl (by decide +kernel) ⟨Nat.le_of_ble_eq_true rfl, Nat.le_of_ble_eq_true rfl⟩) rfl rfl (Nat.le_of_ble_eq_true rfl) (by decide) dL_entries_3 (fun nm ce q9 σx H locs hpx h hc1 hc2 hc3 => ?_) (fun rr_ σ20 H locs hpo h => ?_)
  · have hn := hnm nm σx hpx
    subst hn
    refine vx_catch (own := RL) (name := "java/lang/IllegalStateException") S.2.2.2.1 [] ⟨0, 8, 11, 25⟩ [] (ht.trans rfl) (fun z hz => absurd hz List.not_mem_nil) rfl (by decide) (S.2.2.2.2 (.classLink RL 25 "java/lang/IllegalStateException") (by decide +kernel)) (va_Nw.use rfl (X.2.2.1 _ (by decide +kernel))) hc1 hc2 hc3 ?_
    refine lv_astore_n (lv' := [(2, .ref q9), (0, .ref (E.2.1 0)), (1, .ref (E.2.1 59))]) S.1 S.2.1 dL_entries_11 rfl hl (by decide) rfl (fun ls hl => ?_)
    refine lv_iconst (v := 1) S.1 S.2.1 dL_entries_12 (by decide) ?_
    exact cvh_iret S hr hlk hsz h (Or.inr (⟨rfl, hpx⟩)) (by decide) dL_entries_13
  · refine lv_i2l (v := (rr_ : Int32).toInt64) S.1 S.2.1 dL_entries_6 rfl ?_
    refine lv_topl (fun xv exv => ?_)
    refine cv_last (x := xv) S K h 59 rfl (n := 1) rfl 0 rfl (by decide) dL_entries_7 (fun σ21 H locs eσ21 h => ?_)
    refine lv_goto (tgt := 14) S.1 S.2.1 dL_entries_8 (by decide) ?_
    refine lv_iconst (v := 0) S.1 S.2.1 dL_entries_14 (by decide) ?_
    exact cvh_iret S hr hlk hsz h (Or.inl ⟨rfl, rr_, σ20, hpo, by rw [eσ21, exv]⟩) (by decide) dL_entries_15

set_option maxHeartbeats 4000000 in
set_option maxRecDepth 100000 in
theorem h_name (l : Launch) (E : cv_E) (σ : cv_S) (i : Int32) {post : Int64 → cv_S → Prop} {px : String → cv_S → Prop} (hM : cv_Xl l E yX5_name wsX5_name 7 2 [.ref (E.2.1 0), .int i] σ post px) (hnm : ∀ nm τ, px nm τ → nm = "java/lang/IllegalStateException" ∨ nm = "java/lang/IndexOutOfBoundsException") : cv_Hi l E yL_name wsL_name [.ref (E.2.1 0), .int i, .ref (E.2.1 59)] σ (fun k τ => (k = 0 ∧ ∃ r ρ, post r ρ ∧ τ = cv_uJ ρ 59 (vp_updL (ρ.2.1 59) 0 r)) ∨ (k = 1 ∧ px "java/lang/IllegalStateException" τ) ∨ (k = 2 ∧ px "java/lang/IndexOutOfBoundsException" τ)) := by
  intro sz
  refine cvh_in (hh := [(0, 8, 11, 25), (0, 8, 14, 55)]) (ws := wsL_name) (cc := cL_name) (maxL := 4) (ret := (some .int)) (own := RL) rfl (by decide) rfl (Nat.le_of_ble_eq_true rfl) ?_
  intro p e s m below meth c S K X ht hr hlk hsz h ls hl
  have hl : lv_has ls 4 [(0, .ref (E.2.1 0)), (1, .int i), (2, .ref (E.2.1 59))] := hl
  refine lv_aload_n S.1 S.2.1 dL_name_0 rfl (lv_at hl 2 rfl) ?_
  refine lv_iconst (v := 0) S.1 S.2.1 dL_name_1 (by decide) ?_
  refine lv_aload_n S.1 S.2.1 dL_name_2 rfl (lv_at hl 0 rfl) ?_
  refine lv_iload_n S.1 S.2.1 dL_name_3 rfl (lv_at hl 1 rfl) ?_
  refine cvx_calll (ci := 5) (C := RX5) (T := TX5) (N := 7) S K X h hl.1 rfl rfl rfl (hM) (cwV 1 S.2.2.2.2 gL_name_X5_name rfl rfl rfl (by decide +kernel) ⟨Nat.le_of_ble_eq_true rfl, Nat.le_of_ble_eq_true rfl⟩) rfl rfl (Nat.le_of_ble_eq_true rfl) (by decide) dL_name_4 (fun nm ce q9 σx H locs hpx h hc1 hc2 hc3 => ?_) (fun rr_ σ22 H locs hpo h => ?_)
  · rcases hnm nm σx hpx with hn | hn
    · subst hn
      refine vx_catch (own := RL) (name := "java/lang/IllegalStateException") S.2.2.2.1 [] ⟨0, 8, 11, 25⟩ [⟨0, 8, 14, 55⟩] (ht.trans rfl) (fun z hz => absurd hz List.not_mem_nil) rfl (by decide) (S.2.2.2.2 (.classLink RL 25 "java/lang/IllegalStateException") (by decide +kernel)) (va_Nw.use rfl (X.2.2.1 _ (by decide +kernel))) hc1 hc2 hc3 ?_
      refine lv_astore_n (lv' := [(3, .ref q9), (0, .ref (E.2.1 0)), (1, .int i), (2, .ref (E.2.1 59))]) S.1 S.2.1 dL_name_11 rfl hl (by decide) rfl (fun ls hl => ?_)
      refine lv_iconst (v := 1) S.1 S.2.1 dL_name_12 (by decide) ?_
      exact cvh_iret S hr hlk hsz h (Or.inr (Or.inl ⟨rfl, hpx⟩)) (by decide) dL_name_13
    · subst hn
      refine vx_catch (own := RL) (name := "java/lang/IndexOutOfBoundsException") S.2.2.2.1 [⟨0, 8, 11, 25⟩] ⟨0, 8, 14, 55⟩ [] (ht.trans rfl) (List.forall_mem_cons.mpr ⟨Or.inr ⟨(by decide), "java/lang/IllegalStateException", S.2.2.2.2 (.classLink RL 25 "java/lang/IllegalStateException") (by decide +kernel), X.2.2.2 ("java/lang/IndexOutOfBoundsException", "java/lang/IllegalStateException") (by decide +kernel)⟩, fun z hz => absurd hz List.not_mem_nil⟩) rfl (by decide) (S.2.2.2.2 (.classLink RL 55 "java/lang/IndexOutOfBoundsException") (by decide +kernel)) (va_Nw.use rfl (X.2.2.1 _ (by decide +kernel))) hc1 hc2 hc3 ?_
      refine lv_astore_n (lv' := [(3, .ref q9), (0, .ref (E.2.1 0)), (1, .int i), (2, .ref (E.2.1 59))]) S.1 S.2.1 dL_name_14 rfl hl (by decide) rfl (fun ls hl => ?_)
      refine lv_iconst (v := 2) S.1 S.2.1 dL_name_15 (by decide) ?_
      exact cvh_iret S hr hlk hsz h (Or.inr (Or.inr (⟨rfl, hpx⟩))) (by decide) dL_name_16
  · refine cv_last (x := rr_) S K h 59 rfl (n := 1) rfl 0 rfl (by decide) dL_name_7 (fun σ23 H locs eσ23 h => ?_)
    refine lv_goto (tgt := 17) S.1 S.2.1 dL_name_8 (by decide) ?_
    refine lv_iconst (v := 0) S.1 S.2.1 dL_name_17 (by decide) ?_
    exact cvh_iret S hr hlk hsz h (Or.inl ⟨rfl, rr_, σ22, hpo, by rw [eσ23]⟩) (by decide) dL_name_18

set_option maxHeartbeats 4000000 in
set_option maxRecDepth 100000 in
theorem h_value (l : Launch) (E : cv_E) (σ : cv_S) (nm : Int64) (bk : Int32) {post : Int64 → cv_S → Prop} {px : String → cv_S → Prop} (hM : cv_Xl l E yX5_value wsX5_value 7 2 [.ref (E.2.1 0), .long nm, .int bk] σ post px) (hnm : ∀ nm τ, px nm τ → nm = "java/lang/IllegalStateException" ∨ nm = "java/lang/IndexOutOfBoundsException" ∨ nm = "java/util/NoSuchElementException") : cv_Hi l E yL_value wsL_value [.ref (E.2.1 0), .long nm, .int bk, .ref (E.2.1 59)] σ (fun k τ => (k = 0 ∧ ∃ r ρ, post r ρ ∧ τ = cv_uJ ρ 59 (vp_updL (ρ.2.1 59) 0 r)) ∨ (k = 1 ∧ px "java/lang/IllegalStateException" τ) ∨ (k = 2 ∧ px "java/lang/IndexOutOfBoundsException" τ) ∨ (k = 3 ∧ px "java/util/NoSuchElementException" τ)) := by
  intro sz
  refine cvh_in (hh := [(0, 10, 13, 25), (0, 10, 17, 55), (0, 10, 21, 19)]) (ws := wsL_value) (cc := cL_value) (maxL := 6) (ret := (some .int)) (own := RL) rfl (by decide) rfl (Nat.le_of_ble_eq_true rfl) ?_
  intro p e s m below meth c S K X ht hr hlk hsz h ls hl
  have hl : lv_has ls 6 [(0, .ref (E.2.1 0)), (1, .long nm), (3, .int bk), (4, .ref (E.2.1 59))] := hl
  refine lv_aload S.1 S.2.1 dL_value_0 (lv_at hl 3 rfl) ?_
  refine lv_iconst (v := 0) S.1 S.2.1 dL_value_2 (by decide) ?_
  refine lv_aload_n S.1 S.2.1 dL_value_3 rfl (lv_at hl 0 rfl) ?_
  refine lv_lload_n S.1 S.2.1 dL_value_4 rfl (lv_at hl 1 rfl) ?_
  refine lv_iload_n S.1 S.2.1 dL_value_5 rfl (lv_at hl 2 rfl) ?_
  refine cvx_calll (ci := 5) (C := RX5) (T := TX5) (N := 7) S K X h hl.1 rfl rfl rfl (hM) (cwV 2 S.2.2.2.2 gL_value_X5_value rfl rfl rfl (by decide +kernel) ⟨Nat.le_of_ble_eq_true rfl, Nat.le_of_ble_eq_true rfl⟩) rfl rfl (Nat.le_of_ble_eq_true rfl) (by decide) dL_value_6 (fun nm ce q9 σx H locs hpx h hc1 hc2 hc3 => ?_) (fun rr_ σ24 H locs hpo h => ?_)
  · rcases hnm nm σx hpx with hn | hn | hn
    · subst hn
      refine vx_catch (own := RL) (name := "java/lang/IllegalStateException") S.2.2.2.1 [] ⟨0, 10, 13, 25⟩ [⟨0, 10, 17, 55⟩, ⟨0, 10, 21, 19⟩] (ht.trans rfl) (fun z hz => absurd hz List.not_mem_nil) rfl (by decide) (S.2.2.2.2 (.classLink RL 25 "java/lang/IllegalStateException") (by decide +kernel)) (va_Nw.use rfl (X.2.2.1 _ (by decide +kernel))) hc1 hc2 hc3 ?_
      refine lv_astore (lv' := [(5, .ref q9), (0, .ref (E.2.1 0)), (1, .long nm), (3, .int bk), (4, .ref (E.2.1 59))]) S.1 S.2.1 dL_value_13 hl (by decide) rfl (fun ls hl => ?_)
      refine lv_iconst (v := 1) S.1 S.2.1 dL_value_15 (by decide) ?_
      exact cvh_iret S hr hlk hsz h (Or.inr (Or.inl ⟨rfl, hpx⟩)) (by decide) dL_value_16
    · subst hn
      refine vx_catch (own := RL) (name := "java/lang/IndexOutOfBoundsException") S.2.2.2.1 [⟨0, 10, 13, 25⟩] ⟨0, 10, 17, 55⟩ [⟨0, 10, 21, 19⟩] (ht.trans rfl) (List.forall_mem_cons.mpr ⟨Or.inr ⟨(by decide), "java/lang/IllegalStateException", S.2.2.2.2 (.classLink RL 25 "java/lang/IllegalStateException") (by decide +kernel), X.2.2.2 ("java/lang/IndexOutOfBoundsException", "java/lang/IllegalStateException") (by decide +kernel)⟩, fun z hz => absurd hz List.not_mem_nil⟩) rfl (by decide) (S.2.2.2.2 (.classLink RL 55 "java/lang/IndexOutOfBoundsException") (by decide +kernel)) (va_Nw.use rfl (X.2.2.1 _ (by decide +kernel))) hc1 hc2 hc3 ?_
      refine lv_astore (lv' := [(5, .ref q9), (0, .ref (E.2.1 0)), (1, .long nm), (3, .int bk), (4, .ref (E.2.1 59))]) S.1 S.2.1 dL_value_17 hl (by decide) rfl (fun ls hl => ?_)
      refine lv_iconst (v := 2) S.1 S.2.1 dL_value_19 (by decide) ?_
      exact cvh_iret S hr hlk hsz h (Or.inr (Or.inr (Or.inl ⟨rfl, hpx⟩))) (by decide) dL_value_20
    · subst hn
      refine vx_catch (own := RL) (name := "java/util/NoSuchElementException") S.2.2.2.1 [⟨0, 10, 13, 25⟩, ⟨0, 10, 17, 55⟩] ⟨0, 10, 21, 19⟩ [] (ht.trans rfl) (List.forall_mem_cons.mpr ⟨Or.inr ⟨(by decide), "java/lang/IllegalStateException", S.2.2.2.2 (.classLink RL 25 "java/lang/IllegalStateException") (by decide +kernel), X.2.2.2 ("java/util/NoSuchElementException", "java/lang/IllegalStateException") (by decide +kernel)⟩, List.forall_mem_cons.mpr ⟨Or.inr ⟨(by decide), "java/lang/IndexOutOfBoundsException", S.2.2.2.2 (.classLink RL 55 "java/lang/IndexOutOfBoundsException") (by decide +kernel), X.2.2.2 ("java/util/NoSuchElementException", "java/lang/IndexOutOfBoundsException") (by decide +kernel)⟩, fun z hz => absurd hz List.not_mem_nil⟩⟩) rfl (by decide) (S.2.2.2.2 (.classLink RL 19 "java/util/NoSuchElementException") (by decide +kernel)) (va_Nw.use rfl (X.2.2.1 _ (by decide +kernel))) hc1 hc2 hc3 ?_
      refine lv_astore (lv' := [(5, .ref q9), (0, .ref (E.2.1 0)), (1, .long nm), (3, .int bk), (4, .ref (E.2.1 59))]) S.1 S.2.1 dL_value_21 hl (by decide) rfl (fun ls hl => ?_)
      refine lv_iconst (v := 3) S.1 S.2.1 dL_value_23 (by decide) ?_
      exact cvh_iret S hr hlk hsz h (Or.inr (Or.inr (Or.inr (⟨rfl, hpx⟩)))) (by decide) dL_value_24
  · refine cv_last (x := rr_) S K h 59 rfl (n := 1) rfl 0 rfl (by decide) dL_value_9 (fun σ25 H locs eσ25 h => ?_)
    refine lv_goto (tgt := 25) S.1 S.2.1 dL_value_10 (by decide) ?_
    refine lv_iconst (v := 0) S.1 S.2.1 dL_value_25 (by decide) ?_
    exact cvh_iret S hr hlk hsz h (Or.inl ⟨rfl, rr_, σ24, hpo, by rw [eσ25]⟩) (by decide) dL_value_26

set_option maxHeartbeats 4000000 in
set_option maxRecDepth 100000 in
theorem h_disk (l : Launch) (E : cv_E) (σ : cv_S) (i : Int32) {post : Int32 → cv_S → Prop} {px : String → cv_S → Prop} (hM : cv_Xi l E yX5_disk wsX5_disk 7 2 [.ref (E.2.1 0), .int i] σ post px) (hnm : ∀ nm τ, px nm τ → nm = "java/lang/IndexOutOfBoundsException") : cv_Hi l E yL_disk wsL_disk [.ref (E.2.1 0), .int i, .ref (E.2.1 59)] σ (fun k τ => (k = 0 ∧ ∃ r ρ, post r ρ ∧ τ = cv_uJ ρ 59 (vp_updL (ρ.2.1 59) 0 r.toInt64)) ∨ (k = 1 ∧ px "java/lang/IndexOutOfBoundsException" τ)) := by
  intro sz
  refine cvh_in (hh := [(0, 9, 12, 55)]) (ws := wsL_disk) (cc := cL_disk) (maxL := 4) (ret := (some .int)) (own := RL) rfl (by decide) rfl (Nat.le_of_ble_eq_true rfl) ?_
  intro p e s m below meth c S K X ht hr hlk hsz h ls hl
  have hl : lv_has ls 4 [(0, .ref (E.2.1 0)), (1, .int i), (2, .ref (E.2.1 59))] := hl
  refine lv_aload_n S.1 S.2.1 dL_disk_0 rfl (lv_at hl 2 rfl) ?_
  refine lv_iconst (v := 0) S.1 S.2.1 dL_disk_1 (by decide) ?_
  refine lv_aload_n S.1 S.2.1 dL_disk_2 rfl (lv_at hl 0 rfl) ?_
  refine lv_iload_n S.1 S.2.1 dL_disk_3 rfl (lv_at hl 1 rfl) ?_
  refine cvx_calli (ci := 5) (C := RX5) (T := TX5) (N := 7) S K X h hl.1 rfl rfl rfl (hM) (cwV 1 S.2.2.2.2 gL_disk_X5_disk rfl rfl rfl (by decide +kernel) ⟨Nat.le_of_ble_eq_true rfl, Nat.le_of_ble_eq_true rfl⟩) rfl rfl (Nat.le_of_ble_eq_true rfl) (by decide) dL_disk_4 (fun nm ce q9 σx H locs hpx h hc1 hc2 hc3 => ?_) (fun rr_ σ26 H locs hpo h => ?_)
  · have hn := hnm nm σx hpx
    subst hn
    refine vx_catch (own := RL) (name := "java/lang/IndexOutOfBoundsException") S.2.2.2.1 [] ⟨0, 9, 12, 55⟩ [] (ht.trans rfl) (fun z hz => absurd hz List.not_mem_nil) rfl (by decide) (S.2.2.2.2 (.classLink RL 55 "java/lang/IndexOutOfBoundsException") (by decide +kernel)) (va_Nw.use rfl (X.2.2.1 _ (by decide +kernel))) hc1 hc2 hc3 ?_
    refine lv_astore_n (lv' := [(3, .ref q9), (0, .ref (E.2.1 0)), (1, .int i), (2, .ref (E.2.1 59))]) S.1 S.2.1 dL_disk_12 rfl hl (by decide) rfl (fun ls hl => ?_)
    refine lv_iconst (v := 1) S.1 S.2.1 dL_disk_13 (by decide) ?_
    exact cvh_iret S hr hlk hsz h (Or.inr (⟨rfl, hpx⟩)) (by decide) dL_disk_14
  · refine lv_i2l (v := (rr_ : Int32).toInt64) S.1 S.2.1 dL_disk_7 rfl ?_
    refine lv_topl (fun xv exv => ?_)
    refine cv_last (x := xv) S K h 59 rfl (n := 1) rfl 0 rfl (by decide) dL_disk_8 (fun σ27 H locs eσ27 h => ?_)
    refine lv_goto (tgt := 15) S.1 S.2.1 dL_disk_9 (by decide) ?_
    refine lv_iconst (v := 0) S.1 S.2.1 dL_disk_15 (by decide) ?_
    exact cvh_iret S hr hlk hsz h (Or.inl ⟨rfl, rr_, σ26, hpo, by rw [eσ27, exv]⟩) (by decide) dL_disk_16

set_option maxHeartbeats 4000000 in
set_option maxRecDepth 100000 in
theorem h_spoil (l : Launch) (E : cv_E) (σ : cv_S) (i bits : Int32) {post : cv_S → Prop} {px : String → cv_S → Prop} (hM : cv_Xv l E yX5_spoil wsX5_spoil 7 2 [.ref (E.2.1 0), .int i, .int bits] σ post px) (hnm : ∀ nm τ, px nm τ → nm = "java/lang/IndexOutOfBoundsException") : cv_Hi l E yL_spoil wsL_spoil [.ref (E.2.1 0), .int i, .int bits] σ (fun k τ => (k = 0 ∧ post τ) ∨ (k = 1 ∧ px "java/lang/IndexOutOfBoundsException" τ)) := by
  intro sz
  refine cvh_in (hh := [(0, 6, 9, 55)]) (ws := wsL_spoil) (cc := cL_spoil) (maxL := 4) (ret := (some .int)) (own := RL) rfl (by decide) rfl (Nat.le_of_ble_eq_true rfl) ?_
  intro p e s m below meth c S K X ht hr hlk hsz h ls hl
  have hl : lv_has ls 4 [(0, .ref (E.2.1 0)), (1, .int i), (2, .int bits)] := hl
  refine lv_aload_n S.1 S.2.1 dL_spoil_0 rfl (lv_at hl 0 rfl) ?_
  refine lv_iload_n S.1 S.2.1 dL_spoil_1 rfl (lv_at hl 1 rfl) ?_
  refine lv_iload_n S.1 S.2.1 dL_spoil_2 rfl (lv_at hl 2 rfl) ?_
  refine cvx_callv (ci := 5) (C := RX5) (T := TX5) (N := 7) S K X h hl.1 rfl rfl rfl (hM) (cwV 2 S.2.2.2.2 gL_spoil_X5_spoil rfl rfl rfl (by decide +kernel) ⟨Nat.le_of_ble_eq_true rfl, Nat.le_of_ble_eq_true rfl⟩) rfl rfl (Nat.le_of_ble_eq_true rfl) (by decide) dL_spoil_3 (fun nm ce q9 σx H locs hpx h hc1 hc2 hc3 => ?_) (fun σ28 H locs hpo h => ?_)
  · have hn := hnm nm σx hpx
    subst hn
    refine vx_catch (own := RL) (name := "java/lang/IndexOutOfBoundsException") S.2.2.2.1 [] ⟨0, 6, 9, 55⟩ [] (ht.trans rfl) (fun z hz => absurd hz List.not_mem_nil) rfl (by decide) (S.2.2.2.2 (.classLink RL 55 "java/lang/IndexOutOfBoundsException") (by decide +kernel)) (va_Nw.use rfl (X.2.2.1 _ (by decide +kernel))) hc1 hc2 hc3 ?_
    refine lv_astore_n (lv' := [(3, .ref q9), (0, .ref (E.2.1 0)), (1, .int i), (2, .int bits)]) S.1 S.2.1 dL_spoil_9 rfl hl (by decide) rfl (fun ls hl => ?_)
    refine lv_iconst (v := 1) S.1 S.2.1 dL_spoil_10 (by decide) ?_
    exact cvh_iret S hr hlk hsz h (Or.inr (⟨rfl, hpx⟩)) (by decide) dL_spoil_11
  · refine lv_goto (tgt := 12) S.1 S.2.1 dL_spoil_6 (by decide) ?_
    refine lv_iconst (v := 0) S.1 S.2.1 dL_spoil_12 (by decide) ?_
    exact cvh_iret S hr hlk hsz h (Or.inl ⟨rfl, hpo⟩) (by decide) dL_spoil_13

set_option maxHeartbeats 4000000 in
set_option maxRecDepth 100000 in
theorem h_isGood (l : Launch) (E : cv_E) (σ : cv_S) (sl : Int32) (pw : Int64) {post : Int32 → cv_S → Prop} {px : String → cv_S → Prop} (hM : cv_Xi l E yX5_isGood wsX5_isGood 7 2 [.ref (E.2.1 0), .int sl, .long pw] σ post px) (hnm : ∀ nm τ, px nm τ → nm = "java/lang/IndexOutOfBoundsException") (hb : ∀ r τ, post r τ → r = 0 ∨ r = 1) : cv_Hi l E yL_isGood wsL_isGood [.ref (E.2.1 0), .int sl, .long pw, .ref (E.2.1 59)] σ (fun k τ => (k = 0 ∧ ∃ r ρ, post r ρ ∧ τ = cv_uJ ρ 59 (vp_updL (ρ.2.1 59) 0 (if r = 0 then 0 else 1))) ∨ (k = 1 ∧ px "java/lang/IndexOutOfBoundsException" τ)) := by
  intro sz
  refine cvh_in (hh := [(0, 18, 21, 55)]) (ws := wsL_isGood) (cc := cL_isGood) (maxL := 6) (ret := (some .int)) (own := RL) rfl (by decide) rfl (Nat.le_of_ble_eq_true rfl) ?_
  intro p e s m below meth c S K X ht hr hlk hsz h ls hl
  have hl : lv_has ls 6 [(0, .ref (E.2.1 0)), (1, .int sl), (2, .long pw), (4, .ref (E.2.1 59))] := hl
  refine lv_aload S.1 S.2.1 dL_isGood_0 (lv_at hl 3 rfl) ?_
  refine lv_iconst (v := 0) S.1 S.2.1 dL_isGood_2 (by decide) ?_
  refine lv_aload_n S.1 S.2.1 dL_isGood_3 rfl (lv_at hl 0 rfl) ?_
  refine lv_iload_n S.1 S.2.1 dL_isGood_4 rfl (lv_at hl 1 rfl) ?_
  refine lv_lload_n S.1 S.2.1 dL_isGood_5 rfl (lv_at hl 2 rfl) ?_
  refine cvx_calli (ci := 5) (C := RX5) (T := TX5) (N := 7) S K X h hl.1 rfl rfl rfl (hM) (cwV 2 S.2.2.2.2 gL_isGood_X5_isGood rfl rfl rfl (by decide +kernel) ⟨Nat.le_of_ble_eq_true rfl, Nat.le_of_ble_eq_true rfl⟩) rfl rfl (Nat.le_of_ble_eq_true rfl) (by decide) dL_isGood_6 (fun nm ce q9 σx H locs hpx h hc1 hc2 hc3 => ?_) (fun rr_ σ29 H locs hpo h => ?_)
  · have hn := hnm nm σx hpx
    subst hn
    refine vx_catch (own := RL) (name := "java/lang/IndexOutOfBoundsException") S.2.2.2.1 [] ⟨0, 18, 21, 55⟩ [] (ht.trans rfl) (fun z hz => absurd hz List.not_mem_nil) rfl (by decide) (S.2.2.2.2 (.classLink RL 55 "java/lang/IndexOutOfBoundsException") (by decide +kernel)) (va_Nw.use rfl (X.2.2.1 _ (by decide +kernel))) hc1 hc2 hc3 ?_
    refine lv_astore (lv' := [(5, .ref q9), (0, .ref (E.2.1 0)), (1, .int sl), (2, .long pw), (4, .ref (E.2.1 59))]) S.1 S.2.1 dL_isGood_21 hl (by decide) rfl (fun ls hl => ?_)
    refine lv_iconst (v := 1) S.1 S.2.1 dL_isGood_23 (by decide) ?_
    exact cvh_iret S hr hlk hsz h (Or.inr (⟨rfl, hpx⟩)) (by decide) dL_isGood_24
  · refine lv_if_eq (tgt := 16) S.1 S.2.1 dL_isGood_9 (by decide) (fun c1 => ?_) (fun c1 => ?_)
    · refine lv_lconst (v := 0) S.1 S.2.1 dL_isGood_16 (by decide) ?_
      refine cv_last (x := 0) S K h 59 rfl (n := 1) rfl 0 rfl (by decide) dL_isGood_17 (fun σ30 H locs eσ30 h => ?_)
      refine lv_goto (tgt := 25) S.1 S.2.1 dL_isGood_18 (by decide) ?_
      refine lv_iconst (v := 0) S.1 S.2.1 dL_isGood_25 (by decide) ?_
      exact cvh_iret S hr hlk hsz h (Or.inl ⟨rfl, rr_, σ29, hpo, by rw [eσ30, if_pos c1]⟩) (by decide) dL_isGood_26
    · refine lv_lconst (v := 1) S.1 S.2.1 dL_isGood_12 (by decide) ?_
      refine lv_goto (tgt := 17) S.1 S.2.1 dL_isGood_13 (by decide) ?_
      refine cv_last (x := 1) S K h 59 rfl (n := 1) rfl 0 rfl (by decide) dL_isGood_17 (fun σ31 H locs eσ31 h => ?_)
      refine lv_goto (tgt := 25) S.1 S.2.1 dL_isGood_18 (by decide) ?_
      refine lv_iconst (v := 0) S.1 S.2.1 dL_isGood_25 (by decide) ?_
      exact cvh_iret S hr hlk hsz h (Or.inl ⟨rfl, rr_, σ29, hpo, by rw [eσ31, if_neg c1]⟩) (by decide) dL_isGood_26
