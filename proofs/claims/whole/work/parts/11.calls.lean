/-! 11: contracts over the one world: their form, a method's entry, its end, a call -/
/-- a method's room by the depth of its calls -/
abbrev cv_R (d : Nat) : Room := { frames := d, cells := 0, slots := 0, locals := 30 * d }
def cv_Pre (E : cv_E) (σ : cv_S) (sz : Nat) : State → Prop := fun U => U.heap.size = sz ∧ va_P E.1 vwCl (cv_W E σ) U.heap ∧ cv_K E U
def cv_B (E : cv_E) : cv_S → State → Prop := fun σ t => va_P E.1 vwCl (cv_W E σ) t.heap
abbrev cv_Mv (l : Launch) (E : cv_E) (y : MethodName) (ws : List Cond) (rm : Room) (av : List Value) (σ : cv_S) (post : cv_S → Prop) : Prop := ∀ sz : Nat, Met l y ws rm (va_Pc av (cv_Pre E σ sz)) (va_Qv post (cv_B E) (cv_A E sz)) 0 0 (cv_A E sz)
abbrev cv_Mi (l : Launch) (E : cv_E) (y : MethodName) (ws : List Cond) (rm : Room) (av : List Value) (σ : cv_S) (post : Int32 → cv_S → Prop) : Prop := ∀ sz : Nat, Met l y ws rm (va_Pc av (cv_Pre E σ sz)) (va_Qi post (cv_B E) (cv_A E sz)) 0 0 (cv_A E sz)
abbrev cv_Ml (l : Launch) (E : cv_E) (y : MethodName) (ws : List Cond) (rm : Room) (av : List Value) (σ : cv_S) (post : Int64 → cv_S → Prop) : Prop := ∀ sz : Nat, Met l y ws rm (va_Pc av (cv_Pre E σ sz)) (va_Ql post (cv_B E) (cv_A E sz)) 0 0 (cv_A E sz)
theorem cv_blind (E : cv_E) (σ : cv_S) (sz : Nat) (av : List Value) : FrameBlind (va_Pc av (cv_Pre E σ sz)) := fun a U g mk q => by
  obtain ⟨q0, q1, qP, qK⟩ := q
  exact ⟨q0, q1, qP, cv_K.same (s := U) (U := U.calling g mk a) rfl qK⟩
theorem cv_le {E : cv_E} {s : State} {H : Heap} {locs : List Loc} (hS : va_S (cv_A E s.heap.size) s.heap H locs) : ∀ q, cv_A E H.size q → cv_A E s.heap.size q := fun q h => h.elim Or.inl (fun h => Or.inr (Nat.le_trans hS.1 h))
/-- a method's entry -/
theorem cv_in {l : Launch} {E : cv_E} {y : MethodName} {ws ws' : List Cond} {rm : Room} {av : List Value} {σ : cv_S} {cc : ByteArray} {maxL : Nat} {ret : Option FieldType} {own : String} {Qc : Array Value → State → Outcome → State → Prop} {sz : Nat} (hw : ws = Cond.code y cc maxL ret :: ws') (hy : plainName y.cls = true) (ho : y.cls = own) (hlen : (lg_sl av).length ≤ maxL)
    (body : ∀ (p : Program) (e : Env) (s : State) (m : MethodId) (below : List Frame) (meth : Method) (c : Code), CallFix p m c cc maxL s av.toArray ws own → cv_K E s → meth.sig.returnType = ret → meth.locks = false → s.heap.size = sz → cv_H E σ s s.heap [] → ∀ ls : Array Slot, lv_has ls maxL (lv_args 0 av) →
      W p l e rm s m av.toArray below meth c s.heap [] 0 0 (MQ below Qc av.toArray s 0 0 (cv_A E sz)) (F0 m 0 ls [])) : Met l y ws rm (va_Pc av (cv_Pre E σ sz)) Qc 0 0 (cv_A E sz) := by
  refine Met.ofW (cc := cc) (maxL := maxL) (ret := ret) hy hw ?_
  intro p e s m args below meth c s₁ B hml hv
  obtain ⟨rfl, hsz, hP, hK⟩ := hv
  have hown : s.vm.findClass own = some m.cls := by rw [← ho]; exact findClass_of_methodNamed B.named
  have hl := lv_entry av (n := maxL) hlen
  rw [lg_entry_eq]
  exact body p e s m below meth c ⟨B.exec, B.bytes, hml, hown, atoms_spec (ws := ws) B.pre⟩ hK B.returns B.notSynchronized hsz ⟨hP, va_S.rf⟩ _ hl
section CVC
variable {p : Program} {l : Launch} {e : Env} {R : Room} {s : State} {m : MethodId} {args : Array Value} {below : List Frame} {meth : Method} {c : Code} {H : Heap} {locs : List Loc} {cells slots : Nat} {Q : State → Prop}
variable {cc : ByteArray} {pc nL : Nat} {ls : Array Slot} {rest : List Value} {E : cv_E} {σ : cv_S} {own : String} {Ts : List Cond}
theorem cv_vret {post : cv_S → Prop} {sz : Nat} (S : CallFix p m c cc nL s args Ts own) (hr : meth.sig.returnType = none) (hlocks : meth.locks = false) (hsz : s.heap.size = sz) (h : cv_H E σ s H locs) (hp : post σ) (hdg : decode cc pc = .ok (.return_, 1)) :
    W p l e R s m args below meth c H locs cells slots (MQ below (va_Qv post (cv_B E) (cv_A E sz)) args s cells slots (cv_A E sz)) (F0 m pc ls []) := by
  subst hsz
  exact W.vret S.1 S.2.1 hr (fun t ht _ => ⟨⟨σ, rfl, hp, by show va_P _ _ _ _; rw [ht]; exact h.1⟩, h.2.F ht⟩) h.2.2.2 hdg hlocks
theorem cv_iret {post : Int32 → cv_S → Prop} {sz : Nat} {v : Int32} (S : CallFix p m c cc nL s args Ts own) (hr : meth.sig.returnType = some .int) (hlocks : meth.locks = false) (hsz : s.heap.size = sz) (h : cv_H E σ s H locs) (hp : post v σ) (hdg : decode cc pc = .ok (.ireturn, 1)) :
    W p l e R s m args below meth c H locs cells slots (MQ below (va_Qi post (cv_B E) (cv_A E sz)) args s cells slots (cv_A E sz)) (F0 m pc ls [.int v]) := by
  subst hsz
  exact W.iret S.1 S.2.1 hr (fun t ht _ => ⟨⟨v, σ, rfl, hp, by show va_P _ _ _ _; rw [ht]; exact h.1⟩, h.2.F ht⟩) h.2.2.2 hdg hlocks
theorem cv_zret {post : Int32 → cv_S → Prop} {sz : Nat} {v : Int32} (S : CallFix p m c cc nL s args Ts own) (hr : meth.sig.returnType = some .boolean) (hv : v = 0 ∨ v = 1) (hlocks : meth.locks = false) (hsz : s.heap.size = sz) (h : cv_H E σ s H locs) (hp : post v σ) (hdg : decode cc pc = .ok (.ireturn, 1)) :
    W p l e R s m args below meth c H locs cells slots (MQ below (va_Qi post (cv_B E) (cv_A E sz)) args s cells slots (cv_A E sz)) (F0 m pc ls [.int v]) := by
  subst hsz
  exact W.zret S.1 S.2.1 hr (by rcases hv with rfl | rfl <;> rfl) (fun t ht _ => ⟨⟨v, σ, rfl, hp, by show va_P _ _ _ _; rw [ht]; exact h.1⟩, h.2.F ht⟩) h.2.2.2 hdg hlocks
theorem cv_lret {post : Int64 → cv_S → Prop} {sz : Nat} {v : Int64} (S : CallFix p m c cc nL s args Ts own) (hr : meth.sig.returnType = some .long) (hlocks : meth.locks = false) (hsz : s.heap.size = sz) (h : cv_H E σ s H locs) (hp : post v σ) (hdg : decode cc pc = .ok (.lreturn, 1)) :
    W p l e R s m args below meth c H locs cells slots (MQ below (va_Ql post (cv_B E) (cv_A E sz)) args s cells slots (cv_A E sz)) (F0 m pc ls [.long v]) := by
  subst hsz
  exact W.lret S.1 S.2.1 hr (fun t ht _ => ⟨⟨v, σ, rfl, hp, by show va_P _ _ _ _; rw [ht]; exact h.1⟩, h.2.F ht⟩) h.2.2.2 hdg hlocks
variable {y : MethodName} {ws : List Cond} {rm : Room} {bytes : ByteArray} {maxL index n : Nat} {ret : Option FieldType} {C : String} {As st0 : List Value}
theorem cv_preV {Pc : Array Value → State → Prop} (K : cv_K E s) (h : cv_H E σ s H locs) {k ci N : Nat} {fs : List Value} {T : u_T} (hk : cv_kd k = 0) (hf : cv_fs E.2.1 (σ.2.2.1 k) (σ.2.2.2 k) k = (ci, fs)) (hc : vwCl[ci]? = some (C, T, N)) (hb : FrameBlind Pc) (hp : ∀ U : State, U.heap = H → s.WarmedH U.vm → Pc (Value.ref (E.2.1 k) :: As).toArray U) : PreV s H C (E.2.1 k) Pc As :=
  ⟨hb, va_recv (q := (C, T, N)) (ci := ci) (fs := fs) K.1 h.1 hc (by rw [cv_Wget E σ (cv_lt hk (by decide)), cv_ctO hk, hf]), hp⟩
theorem cv_pc (K : cv_K E s) (h : cv_H E σ s H locs) (av : List Value) : ∀ U : State, U.heap = H → s.WarmedH U.vm → va_Pc av (cv_Pre E σ H.size) av.toArray U := fun U hU hW => ⟨rfl, by rw [hU], by rw [hU]; exact h.1, K.warm hW⟩
theorem cv_callv {post : cv_S → Prop} (S : CallFix p m c cc nL s args Ts own) (K : cv_K E s) (h : cv_H E σ s H locs) (hls : ls.size = nL) {k ci N : Nat} {fs : List Value} {T : u_T} (hk : cv_kd k = 0) (hf : cv_fs E.2.1 (σ.2.2.1 k) (σ.2.2.2 k) k = (ci, fs)) (hc : vwCl[ci]? = some (C, T, N)) (hM : cv_Mv l E y ws rm (.ref (E.2.1 k) :: As) σ post) (cw : CallW R s args own C index y bytes maxL ret ws rm 0 0 n) (hn : As.length = n) (hst : st0 = As.reverse ++ .ref (E.2.1 k) :: rest) (hW : (rest.map fun v => v.category).sum ≤ 8) (hcs : cells ≤ R.cells ∧ slots ≤ R.slots) (hdg : decode cc pc = .ok (.invokevirtual index, 3))
    (kk : ∀ (σ' : cv_S) (H1 : Heap) (locs1 : List Loc), post σ' → cv_H E σ' s H1 locs1 → W p l e R s m args below meth c H1 locs1 cells slots Q (F0 m (pc + 3) ls rest)) : W p l e R s m args below meth c H locs cells slots Q (F0 m pc ls st0) :=
  va_callv (va_runV (As := As) (rest := rest) S (hM H.size) cw (cv_preV K h hk hf hc (cv_blind E σ H.size _) (cv_pc K h _)) rfl hn hls hst (lv_room hW) hdg hcs) h.2 (fun q _ h9 => cv_le h.2 q h9) (cv_le h.2) (fun σ' t H1 locs1 ht _ hp hB _ _ hS => kk σ' H1 locs1 hp ⟨by rw [← ht]; exact hB, hS⟩)
theorem cv_calli {post : Int32 → cv_S → Prop} (S : CallFix p m c cc nL s args Ts own) (K : cv_K E s) (h : cv_H E σ s H locs) (hls : ls.size = nL) {k ci N : Nat} {fs : List Value} {T : u_T} (hk : cv_kd k = 0) (hf : cv_fs E.2.1 (σ.2.2.1 k) (σ.2.2.2 k) k = (ci, fs)) (hc : vwCl[ci]? = some (C, T, N)) (hM : cv_Mi l E y ws rm (.ref (E.2.1 k) :: As) σ post) (cw : CallW R s args own C index y bytes maxL ret ws rm 0 0 n) (hn : As.length = n) (hst : st0 = As.reverse ++ .ref (E.2.1 k) :: rest) (hW : (rest.map fun v => v.category).sum ≤ 8) (hcs : cells ≤ R.cells ∧ slots ≤ R.slots) (hdg : decode cc pc = .ok (.invokevirtual index, 3))
    (kk : ∀ (r : Int32) (σ' : cv_S) (H1 : Heap) (locs1 : List Loc), post r σ' → cv_H E σ' s H1 locs1 → W p l e R s m args below meth c H1 locs1 cells slots Q (F0 m (pc + 3) ls (.int r :: rest))) : W p l e R s m args below meth c H locs cells slots Q (F0 m pc ls st0) :=
  va_calli (va_runV (As := As) (rest := rest) S (hM H.size) cw (cv_preV K h hk hf hc (cv_blind E σ H.size _) (cv_pc K h _)) rfl hn hls hst (lv_room hW) hdg hcs) h.2 (fun q _ h9 => cv_le h.2 q h9) (cv_le h.2) (fun r σ' t H1 locs1 ht _ hp hB _ _ hS => kk r σ' H1 locs1 hp ⟨by rw [← ht]; exact hB, hS⟩)
theorem cv_calll {post : Int64 → cv_S → Prop} (S : CallFix p m c cc nL s args Ts own) (K : cv_K E s) (h : cv_H E σ s H locs) (hls : ls.size = nL) {k ci N : Nat} {fs : List Value} {T : u_T} (hk : cv_kd k = 0) (hf : cv_fs E.2.1 (σ.2.2.1 k) (σ.2.2.2 k) k = (ci, fs)) (hc : vwCl[ci]? = some (C, T, N)) (hM : cv_Ml l E y ws rm (.ref (E.2.1 k) :: As) σ post) (cw : CallW R s args own C index y bytes maxL ret ws rm 0 0 n) (hn : As.length = n) (hst : st0 = As.reverse ++ .ref (E.2.1 k) :: rest) (hW : (rest.map fun v => v.category).sum ≤ 8) (hcs : cells ≤ R.cells ∧ slots ≤ R.slots) (hdg : decode cc pc = .ok (.invokevirtual index, 3))
    (kk : ∀ (r : Int64) (σ' : cv_S) (H1 : Heap) (locs1 : List Loc), post r σ' → cv_H E σ' s H1 locs1 → W p l e R s m args below meth c H1 locs1 cells slots Q (F0 m (pc + 3) ls (.long r :: rest))) : W p l e R s m args below meth c H locs cells slots Q (F0 m pc ls st0) :=
  va_calll (va_runV (As := As) (rest := rest) S (hM H.size) cw (cv_preV K h hk hf hc (cv_blind E σ H.size _) (cv_pc K h _)) rfl hn hls hst (lv_room hW) hdg hcs) h.2 (fun q _ h9 => cv_le h.2 q h9) (cv_le h.2) (fun r σ' t H1 locs1 ht _ hp hB _ _ hS => kk r σ' H1 locs1 hp ⟨by rw [← ht]; exact hB, hS⟩)
/-- a static call that answers an int -/
theorem cv_callsi {post : Int32 → cv_S → Prop} (S : CallFix p m c cc nL s args Ts own) (K : cv_K E s) (h : cv_H E σ s H locs) (hls : ls.size = nL) (hM : cv_Mi l E y ws rm As σ post) (cw : CallB R s args own index y bytes maxL ret ws rm 0 0 n ∧ (Cond.static y).before args s = true) (hn : As.length = n) (hst : st0 = As.reverse ++ rest) (hW : (rest.map fun v => v.category).sum ≤ 8) (hcs : cells ≤ R.cells ∧ slots ≤ R.slots) (hdg : decode cc pc = .ok (.invokestatic index, 3))
    (kk : ∀ (r : Int32) (σ' : cv_S) (H1 : Heap) (locs1 : List Loc), post r σ' → cv_H E σ' s H1 locs1 → W p l e R s m args below meth c H1 locs1 cells slots Q (F0 m (pc + 3) ls (.int r :: rest))) : W p l e R s m args below meth c H locs cells slots Q (F0 m pc ls st0) :=
  va_calli (va_runS (As := As) (rest := rest) S (hM H.size) cw ⟨cv_blind E σ H.size _, cv_pc K h _⟩ rfl hn hls hst (lv_room hW) hdg hcs) h.2 (fun q _ h9 => cv_le h.2 q h9) (cv_le h.2) (fun r σ' t H1 locs1 ht _ hp hB _ _ hS => kk r σ' H1 locs1 hp ⟨by rw [← ht]; exact hB, hS⟩)
end CVC
