/-! 30: the reference: add, addInt, addLong, addSeal, cover, contentSize -/
/-- the reference's file holds the bytes l, so many are its size -/
def mf (σ : cv_S) (l : List Nat) : Prop := rh (σ.1 58) 0 l ∧ σ.2.2.1 49 17 = nI l.length
/-- nothing but the int rows of S and the size has changed -/
def mw_F (S : List Nat) (σ σ' : cv_S) : Prop := (∀ k, k ∉ S → σ'.1 k = σ.1 k) ∧ σ'.2.1 = σ.2.1 ∧ (∀ k i, (k ≠ 49 ∨ i ≠ 17) → σ'.2.2.1 k i = σ.2.2.1 k i) ∧ σ'.2.2.2 = σ.2.2.2
theorem mw_F.rf {S : List Nat} {σ : cv_S} : mw_F S σ σ := ⟨fun _ _ => rfl, rfl, fun _ _ _ => rfl, rfl⟩
theorem mw_F.trans {S : List Nat} {σ σ' σ'' : cv_S} (h : mw_F S σ σ') (h' : mw_F S σ' σ'') : mw_F S σ σ'' := ⟨fun k a => (h'.1 k a).trans (h.1 k a), h'.2.1.trans h.2.1, fun k i a => (h'.2.2.1 k i a).trans (h.2.2.1 k i a), h'.2.2.2.trans h.2.2.2⟩
theorem mw_F.mono {S S' : List Nat} {σ σ' : cv_S} (h : mw_F S σ σ') (hs : ∀ k ∈ S, k ∈ S') : mw_F S' σ σ' := ⟨fun k a => h.1 k (fun q => a (hs k q)), h.2.1, h.2.2.1, h.2.2.2⟩
theorem mw_fr {S : List Nat} {σ σ' : cv_S} (h : cv_fr S σ σ') : mw_F S σ σ' := ⟨h.1, by rw [h.2], fun k i _ => by rw [h.2], by rw [h.2]⟩
theorem mf_fr {S : List Nat} {σ σ' : cv_S} {l : List Nat} (h : cv_fr S σ σ') (hS : 58 ∉ S) (hm : mf σ l) : mf σ' l := ⟨by rw [h.1 58 hS]; exact hm.1, by rw [h.2]; exact hm.2⟩
theorem mf_by {σ : cv_S} {l : List Nat} (h : mf σ l) : by_R (σ.1 58) (fun j => l.getD j 0) l.length := fun j hj => by
  have := h.1 j hj
  rw [Nat.zero_add] at this
  exact this
theorem byl_s (x : Int64) (k : Nat) : byl x (k + 1) = byl x k ++ [lb x k] := by unfold byl; rw [List.range_succ, List.map_append]; rfl
theorem and255 (x : Int32) : x &&& 255 = nI (lb x.toInt64 0) := by
  rw [lb_int x (by decide), pk_and x 8 (by decide)]
  unfold ib
  simp
theorem byl_8 (x : Int64) : byl x.toInt32.toInt64 4 ++ byl (x >>> ((32 : Int32).toInt64 &&& 63)).toInt32.toInt64 4 = byl x 8 := by
  show [lb _ 0, lb _ 1, lb _ 2, lb _ 3, lb _ 0, lb _ 1, lb _ 2, lb _ 3] = [lb x 0, lb x 1, lb x 2, lb x 3, lb x 4, lb x 5, lb x 6, lb x 7]
  simp only [lb_int _ (show 0 < 4 by decide), lb_int _ (show 1 < 4 by decide), lb_int _ (show 2 < 4 by decide), lb_int _ (show 3 < 4 by decide), lb_lo x (show 0 < 4 by decide), lb_lo x (show 1 < 4 by decide), lb_lo x (show 2 < 4 by decide), lb_lo x (show 3 < 4 by decide), lb_hi x (show 0 < 4 by decide), lb_hi x (show 1 < 4 by decide), lb_hi x (show 2 < 4 by decide), lb_hi x (show 3 < 4 by decide)]
theorem byl_two (a b : Int32) : byl b.toInt64 4 ++ byl a.toInt64 4 = byl ((a.toInt64 <<< ((32 : Int32).toInt64 &&& 63)) ||| (b.toInt64 &&& 4294967295)) 8 := by
  show [lb _ 0, lb _ 1, lb _ 2, lb _ 3, lb _ 0, lb _ 1, lb _ 2, lb _ 3] = [lb _ 0, lb _ 1, lb _ 2, lb _ 3, lb _ (0 + 4), lb _ (1 + 4), lb _ (2 + 4), lb _ (3 + 4)]
  simp only [lb_int _ (show 0 < 4 by decide), lb_int _ (show 1 < 4 by decide), lb_int _ (show 2 < 4 by decide), lb_int _ (show 3 < 4 by decide), two_lo a b (show 0 < 4 by decide), two_lo a b (show 1 < 4 by decide), two_lo a b (show 2 < 4 by decide), two_lo a b (show 3 < 4 by decide), two_hi a b (show 0 < 4 by decide), two_hi a b (show 1 < 4 by decide), two_hi a b (show 2 < 4 by decide), two_hi a b (show 3 < 4 by decide)]
/-- the reference's entries -/
def em_R (σ : cv_S) (cnt : Nat) (N : Nat → Int64) (O : Nat → Nat) (V : Nat → Nat → Int64) : Prop :=
  σ.2.2.1 49 8 = nI cnt ∧ cnt ≤ 8 ∧ ∀ i, i < cnt → σ.2.1 51 i = N i ∧ σ.1 52 i = nI (O i) ∧ O i ≤ 2 ∧ ∀ k, k ≤ O i → σ.2.1 53 (3 * i + k) = V i k
theorem em_F {S : List Nat} {σ σ' : cv_S} {cnt : Nat} {N : Nat → Int64} {O : Nat → Nat} {V : Nat → Nat → Int64} (h : mw_F S σ σ') (hS : 52 ∉ S) (hR : em_R σ cnt N O V) : em_R σ' cnt N O V := by
  obtain ⟨q1, q2, q3⟩ := hR
  refine ⟨by rw [h.2.2.1 49 8 (Or.inr (by decide))]; exact q1, q2, fun i hi => ?_⟩
  rw [h.2.1, h.1 52 hS]
  exact q3 i hi

set_option maxHeartbeats 4000000 in
set_option maxRecDepth 100000 in
/-- a byte is added -/
theorem m_add (l : Launch) (E : cv_E) (σ : cv_S) (fl_ : List Nat) (hm : mf σ fl_) (hlen : fl_.length < 300) (xv : Int32) : cv_Mv l E yX6_add wsX6_add (cv_R 1) [.ref (E.2.1 49), .int xv] σ (fun τ => mw_F [58] σ τ ∧ mf τ (fl_ ++ byl xv.toInt64 1)) := by
  intro sz
  refine cv_in (ws := wsX6_add) (cc := cX6_add) (maxL := 2) (ret := none) (own := RX6) rfl (by decide) rfl (Nat.le_of_ble_eq_true rfl) ?_
  intro p e s m below meth c S K hr hlk hsz h ls hl
  have hl : lv_has ls 2 [(0, .ref (E.2.1 49)), (1, .int xv)] := hl
  have hinX6 : ∀ w ∈ u_ws RX6 TX6 18, w ∈ wsX6_add := by decide +kernel
  have hf_35 := S.2.2.2.2 (.fieldLink RX6 35 "CrashVaultModel" "file" "[I") (by decide +kernel)
  have hf_64 := S.2.2.2.2 (.fieldLink RX6 64 "CrashVaultModel" "size" "I") (by decide +kernel)
  refine lv_aload_n S.1 S.2.1 dX6_add_0 rfl (lv_at hl 0 rfl) ?_
  refine cv_gf (ci := 6) (C := RX6) (T := TX6) (N := 18) (v := .ref (E.2.1 58)) S K h 49 rfl hinX6 rfl rfl 16 (by decide) hf_35 rfl rfl dX6_add_1 ?_
  refine lv_aload_n S.1 S.2.1 dX6_add_4 rfl (lv_at hl 0 rfl) ?_
  refine cv_gf (ci := 6) (C := RX6) (T := TX6) (N := 18) (v := .int (σ.2.2.1 49 17)) S K h 49 rfl hinX6 rfl rfl 17 (by decide) hf_64 rfl rfl dX6_add_5 ?_
  refine cv_rei (show (σ.2.2.1 49 17) = nI fl_.length from hm.2) ?_
  refine lv_iload_n S.1 S.2.1 dX6_add_8 rfl (lv_at hl 1 rfl) ?_
  refine lv_sipush (v := 255) S.1 S.2.1 dX6_add_9 (by decide) ?_
  refine lv_iand S.1 S.2.1 dX6_add_12 ?_
  refine lv_topi (fun bx ebx => ?_)
  refine cv_iast (x := bx) S K h 58 rfl (n := 300) rfl fl_.length rfl hlen dX6_add_13 (fun σ14 H locs eσ14 h => ?_)
  refine lv_aload_n S.1 S.2.1 dX6_add_14 rfl (lv_at hl 0 rfl) ?_
  refine lv_dup S.1 S.2.1 dX6_add_15 rfl ?_
  refine cv_gf (ci := 6) (C := RX6) (T := TX6) (N := 18) (v := .int (σ14.2.2.1 49 17)) S K h 49 rfl hinX6 rfl rfl 17 (by decide) hf_64 rfl rfl dX6_add_16 ?_
  refine lv_iconst (v := 1) S.1 S.2.1 dX6_add_19 (by decide) ?_
  refine lv_iadd S.1 S.2.1 dX6_add_20 ?_
  refine lv_topi (fun sx esx => ?_)
  refine cv_pf (ci := 6) (C := RX6) (T := TX6) (N := 18) (x := sx) S K h 49 rfl hinX6 rfl rfl 17 cv_pok_X6_17 hf_64 rfl rfl rfl (Nat.le_of_ble_eq_true rfl) rfl dX6_add_21 (fun σ15 H locs eσ15 h => ?_)
  refine cv_vret S hr hlk hsz h ?_ dX6_add_24
  have hs : sx = nI (fl_ ++ byl xv.toInt64 1).length := by rw [esx, eσ14, List.length_append, byl_len]; show σ.2.2.1 49 17 + 1 = _; rw [hm.2, nI_1]
  rw [eσ15, hs, eσ14]
  refine ⟨⟨fun k hk => ?_, rfl, fun k i hk => ?_, rfl⟩, ?_, by rw [cv_F3, if_pos rfl, if_pos rfl]⟩
  · rw [cv_F1, cv_I1, if_neg (fun q => hk (by rw [q]; decide))]
  · rw [cv_F3]
    by_cases h1 : k = 49
    · rw [if_pos h1, if_neg (by omega), h1]; rfl
    · rw [if_neg h1]; rfl
  · rw [cv_F1, cv_I1, if_pos rfl]
    exact rh_upd hm.1 (Nat.zero_add _).symm (ebx.trans (and255 xv)) (lb_lt _ _)

set_option maxHeartbeats 4000000 in
set_option maxRecDepth 100000 in
/-- four bytes are added -/
theorem m_addInt (l : Launch) (E : cv_E) (σ : cv_S) (fl_ : List Nat) (hm : mf σ fl_) (hlen : fl_.length + 4 ≤ 300) (xv : Int32) : cv_Mv l E yX6_addInt wsX6_addInt (cv_R 2) [.ref (E.2.1 49), .int xv] σ (fun τ => mw_F [58] σ τ ∧ mf τ (fl_ ++ byl xv.toInt64 4)) := by
  intro sz
  refine cv_in (ws := wsX6_addInt) (cc := cX6_addInt) (maxL := 3) (ret := none) (own := RX6) rfl (by decide) rfl (Nat.le_of_ble_eq_true rfl) ?_
  intro p e s m below meth c S K hr hlk hsz h ls hl
  have hl : lv_has ls 3 [(0, .ref (E.2.1 49)), (1, .int xv)] := hl
  refine lv_iconst (v := 0) S.1 S.2.1 dX6_addInt_0 (by decide) ?_
  refine lv_istore_n (lv' := [(2, .int 0), (0, .ref (E.2.1 49)), (1, .int xv)]) S.1 S.2.1 dX6_addInt_1 rfl hl (by decide) rfl (fun ls hl => ?_)
  refine cv_loop (α := Unit) (nL := 3) 4 (fun i a τ => mw_F [58] σ τ ∧ mf τ (fl_ ++ byl xv.toInt64 i)) (fun i a => [(2, .int (nI i)), (0, .ref (E.2.1 49)), (1, .int xv)]) ?_ ?_ 0 () σ _ _ _ (by omega) (⟨mw_F.rf, by rw [show byl xv.toInt64 0 = [] from rfl, List.append_nil]; exact hm⟩) h hl
  · intro i a τ H locs ls hi hI h hl ih
    have hl : lv_has ls 3 [(2, .int (nI i)), (0, .ref (E.2.1 49)), (1, .int xv)] := hl
    refine lv_iload_n S.1 S.2.1 dX6_addInt_2 rfl (lv_at hl 0 rfl) ?_
    refine lv_iconst (v := 4) S.1 S.2.1 dX6_addInt_3 (by decide) ?_
    refine lv_icmp_ge (tgt := 23) S.1 S.2.1 dX6_addInt_4 (by decide) (fun c1 => ?_) (fun c1 => ?_)
    · exact absurd c1 (nI_ge (b := 4) hi (by decide))
    · refine lv_aload_n S.1 S.2.1 dX6_addInt_7 rfl (lv_at hl 1 rfl) ?_
      refine lv_iload_n S.1 S.2.1 dX6_addInt_8 rfl (lv_at hl 2 rfl) ?_
      refine lv_bipush (v := 8) S.1 S.2.1 dX6_addInt_9 (by decide) ?_
      refine lv_iload_n S.1 S.2.1 dX6_addInt_11 rfl (lv_at hl 0 rfl) ?_
      refine lv_imul S.1 S.2.1 dX6_addInt_12 ?_
      refine lv_ishr S.1 S.2.1 dX6_addInt_13 ?_
      refine cv_callv (ci := 6) (C := RX6) (T := TX6) (N := 18) S K h hl.1 rfl rfl rfl (m_add l E τ _ hI.2 (by rw [List.length_append, byl_len]; omega) (xv >>> ((8 * nI i) &&& 31))) (cwV 1 S.2.2.2.2 gX6_addInt_X6_add rfl rfl rfl (by decide +kernel) ⟨Nat.le_of_ble_eq_true rfl, Nat.le_of_ble_eq_true rfl⟩) rfl rfl (Nat.le_of_ble_eq_true rfl) ⟨Nat.zero_le _, Nat.zero_le _⟩ dX6_addInt_14 (fun σ16 H locs hq h => ?_)
      obtain ⟨z5, ez5⟩ : ∃ y : Int32, y = ((nI i)) + 1 := ⟨_, rfl⟩
      refine lv_iinc (v := z5) (lv' := [(2, .int z5), (0, .ref (E.2.1 49)), (1, .int xv)]) S.1 S.2.1 dX6_addInt_17 hl (k := 0) rfl (by rw [ez5]; rfl) (by decide) rfl (fun ls hl => ?_)
      refine lv_goto (tgt := 2) S.1 S.2.1 dX6_addInt_20 (by decide) ?_
      rw [ez5, nI_1] at hl
      refine ih () σ16 H locs ls ⟨hI.1.trans hq.1, ?_⟩ h hl
      have g := hq.2
      rw [List.append_assoc] at g
      have e1 : byl (xv >>> ((8 * nI i) &&& 31)).toInt64 1 = [lb xv.toInt64 i] := by
        show [lb _ 0] = _
        have q1 := and255 (xv >>> ((8 * nI i) &&& 31))
        rw [ib_shr xv hi] at q1
        rw [lb_int xv hi]
        have q2 := (nI_eq (by have := ib_lt xv i; omega) (by have := lb_lt (xv >>> ((8 * nI i) &&& 31)).toInt64 0; omega)).mp q1
        rw [← q2]
      rw [e1, ← byl_s] at g
      exact g
  · intro a τ H locs ls hI h hl
    have hl : lv_has ls 3 [(2, .int (nI 4)), (0, .ref (E.2.1 49)), (1, .int xv)] := hl
    refine lv_iload_n S.1 S.2.1 dX6_addInt_2 rfl (lv_at hl 0 rfl) ?_
    refine lv_iconst (v := 4) S.1 S.2.1 dX6_addInt_3 (by decide) ?_
    refine lv_icmp_ge (tgt := 23) S.1 S.2.1 dX6_addInt_4 (by decide) (fun c1 => ?_) (fun c1 => ?_)
    · exact cv_vret S hr hlk hsz h hI dX6_addInt_23
    · exact absurd (Int32.le_refl _) c1

set_option maxHeartbeats 4000000 in
set_option maxRecDepth 100000 in
/-- eight bytes are added -/
theorem m_addLong (l : Launch) (E : cv_E) (σ : cv_S) (fl_ : List Nat) (hm : mf σ fl_) (hlen : fl_.length + 8 ≤ 300) (xv : Int64) : cv_Mv l E yX6_addLong wsX6_addLong (cv_R 3) [.ref (E.2.1 49), .long xv] σ (fun τ => mw_F [58] σ τ ∧ mf τ (fl_ ++ byl xv 8)) := by
  intro sz
  refine cv_in (ws := wsX6_addLong) (cc := cX6_addLong) (maxL := 3) (ret := none) (own := RX6) rfl (by decide) rfl (Nat.le_of_ble_eq_true rfl) ?_
  intro p e s m below meth c S K hr hlk hsz h ls hl
  have hl : lv_has ls 3 [(0, .ref (E.2.1 49)), (1, .long xv)] := hl
  refine lv_aload_n S.1 S.2.1 dX6_addLong_0 rfl (lv_at hl 0 rfl) ?_
  refine lv_lload_n S.1 S.2.1 dX6_addLong_1 rfl (lv_at hl 1 rfl) ?_
  refine lv_l2i (v := (xv : Int64).toInt32) S.1 S.2.1 dX6_addLong_2 rfl ?_
  refine cv_callv (ci := 6) (C := RX6) (T := TX6) (N := 18) S K h hl.1 rfl rfl rfl (m_addInt l E σ _ hm (by omega) xv.toInt32) (cwV 1 S.2.2.2.2 gX6_addLong_X6_addInt rfl rfl rfl (by decide +kernel) ⟨Nat.le_of_ble_eq_true rfl, Nat.le_of_ble_eq_true rfl⟩) rfl rfl (Nat.le_of_ble_eq_true rfl) ⟨Nat.zero_le _, Nat.zero_le _⟩ dX6_addLong_3 (fun σ17 H locs hq1 h => ?_)
  refine lv_aload_n S.1 S.2.1 dX6_addLong_6 rfl (lv_at hl 0 rfl) ?_
  refine lv_lload_n S.1 S.2.1 dX6_addLong_7 rfl (lv_at hl 1 rfl) ?_
  refine lv_bipush (v := 32) S.1 S.2.1 dX6_addLong_8 (by decide) ?_
  refine lv_lshr (v := xv >>> ((32 : Int32).toInt64 &&& 63)) S.1 S.2.1 dX6_addLong_10 rfl ?_
  refine lv_l2i (v := ((xv >>> ((32 : Int32).toInt64 &&& 63)) : Int64).toInt32) S.1 S.2.1 dX6_addLong_11 rfl ?_
  refine cv_callv (ci := 6) (C := RX6) (T := TX6) (N := 18) S K h hl.1 rfl rfl rfl (m_addInt l E σ17 _ hq1.2 (by rw [List.length_append, byl_len]; omega) (xv >>> ((32 : Int32).toInt64 &&& 63)).toInt32) (cwV 1 S.2.2.2.2 gX6_addLong_X6_addInt rfl rfl rfl (by decide +kernel) ⟨Nat.le_of_ble_eq_true rfl, Nat.le_of_ble_eq_true rfl⟩) rfl rfl (Nat.le_of_ble_eq_true rfl) ⟨Nat.zero_le _, Nat.zero_le _⟩ dX6_addLong_12 (fun σ18 H locs hq2 h => ?_)
  refine cv_vret S hr hlk hsz h ⟨hq1.1.trans hq2.1, ?_⟩ dX6_addLong_15
  have g := hq2.2
  rw [List.append_assoc, byl_8] at g
  exact g

set_option maxHeartbeats 4000000 in
set_option maxRecDepth 100000 in
/-- a seal is added -/
theorem m_addSeal (l : Launch) (E : cv_E) (σ : cv_S) (fl_ : List Nat) (hm : mf σ fl_) (n : Nat) (hn : fl_.length = n) (hlen : n + 8 ≤ 300) (z : Int32) : cv_Mv l E yX6_addSeal wsX6_addSeal (cv_R 6) [.ref (E.2.1 49), .int (nI n), .int z] σ (fun τ => mw_F [54, 55, 56, 58] σ τ ∧ mf τ (fl_ ++ byl (pu_sl (σ.1 57) (lf fl_) n z) 8)) := by
  intro sz
  refine cv_in (ws := wsX6_addSeal) (cc := cX6_addSeal) (maxL := 3) (ret := none) (own := RX6) rfl (by decide) rfl (Nat.le_of_ble_eq_true rfl) ?_
  intro p e s m below meth c S K hr hlk hsz h ls hl
  have hl : lv_has ls 3 [(0, .ref (E.2.1 49)), (1, .int (nI n)), (2, .int z)] := hl
  have hinX6 : ∀ w ∈ u_ws RX6 TX6 18, w ∈ wsX6_addSeal := by decide +kernel
  have hf_29 := S.2.2.2.2 (.fieldLink RX6 29 "CrashVaultModel" "key" "[I") (by decide +kernel)
  have hby : by_R (σ.1 58) (fun j => fl_.getD j 0) n := by rw [← hn]; exact mf_by hm
  refine lv_aload_n S.1 S.2.1 dX6_addSeal_0 rfl (lv_at hl 0 rfl) ?_
  refine lv_iload_n S.1 S.2.1 dX6_addSeal_1 rfl (lv_at hl 1 rfl) ?_
  refine lv_iload_n S.1 S.2.1 dX6_addSeal_2 rfl (lv_at hl 2 rfl) ?_
  refine cv_callv (ci := 6) (C := RX6) (T := TX6) (N := 18) S K h hl.1 rfl rfl rfl (m_seal l E σ _ n (by omega) hby z) (cwV 2 S.2.2.2.2 gX6_addSeal_X6_seal rfl rfl rfl (by decide +kernel) ⟨Nat.le_of_ble_eq_true rfl, Nat.le_of_ble_eq_true rfl⟩) rfl rfl (Nat.le_of_ble_eq_true rfl) ⟨Nat.zero_le _, Nat.zero_le _⟩ dX6_addSeal_3 (fun σ19 H locs hs h => ?_)
  have hm1 : mf σ19 fl_ := mf_fr hs.1 (by decide) hm
  refine lv_aload_n S.1 S.2.1 dX6_addSeal_6 rfl (lv_at hl 0 rfl) ?_
  refine lv_aload_n S.1 S.2.1 dX6_addSeal_7 rfl (lv_at hl 0 rfl) ?_
  refine cv_gf (ci := 6) (C := RX6) (T := TX6) (N := 18) (v := .ref (E.2.1 56)) S K h 49 rfl hinX6 rfl rfl 14 (by decide) hf_29 rfl rfl dX6_addSeal_8 ?_
  refine lv_iconst (v := 0) S.1 S.2.1 dX6_addSeal_11 (by decide) ?_
  refine cv_iald S K h 56 rfl (n := 4) rfl 0 rfl (by decide) dX6_addSeal_12 ?_
  refine cv_callv (ci := 6) (C := RX6) (T := TX6) (N := 18) S K h hl.1 rfl rfl rfl (m_addInt l E σ19 _ hm1 (by omega) (σ19.1 56 0)) (cwV 1 S.2.2.2.2 gX6_addSeal_X6_addInt rfl rfl rfl (by decide +kernel) ⟨Nat.le_of_ble_eq_true rfl, Nat.le_of_ble_eq_true rfl⟩) rfl rfl (Nat.le_of_ble_eq_true rfl) ⟨Nat.zero_le _, Nat.zero_le _⟩ dX6_addSeal_13 (fun σ20 H locs hq1 h => ?_)
  refine lv_aload_n S.1 S.2.1 dX6_addSeal_16 rfl (lv_at hl 0 rfl) ?_
  refine lv_aload_n S.1 S.2.1 dX6_addSeal_17 rfl (lv_at hl 0 rfl) ?_
  refine cv_gf (ci := 6) (C := RX6) (T := TX6) (N := 18) (v := .ref (E.2.1 56)) S K h 49 rfl hinX6 rfl rfl 14 (by decide) hf_29 rfl rfl dX6_addSeal_18 ?_
  refine lv_iconst (v := 1) S.1 S.2.1 dX6_addSeal_21 (by decide) ?_
  refine cv_iald S K h 56 rfl (n := 4) rfl 1 rfl (by decide) dX6_addSeal_22 ?_
  refine cv_rei (show (σ20.1 56 1) = σ19.1 56 1 from by rw [hq1.1.1 56 (by decide)]) ?_
  refine cv_callv (ci := 6) (C := RX6) (T := TX6) (N := 18) S K h hl.1 rfl rfl rfl (m_addInt l E σ20 _ hq1.2 (by rw [List.length_append, byl_len]; omega) (σ19.1 56 1)) (cwV 1 S.2.2.2.2 gX6_addSeal_X6_addInt rfl rfl rfl (by decide +kernel) ⟨Nat.le_of_ble_eq_true rfl, Nat.le_of_ble_eq_true rfl⟩) rfl rfl (Nat.le_of_ble_eq_true rfl) ⟨Nat.zero_le _, Nat.zero_le _⟩ dX6_addSeal_23 (fun σ21 H locs hq2 h => ?_)
  refine cv_vret S hr hlk hsz h ⟨((mw_fr hs.1).mono (by decide)).trans ((hq1.1.mono (by decide)).trans (hq2.1.mono (by decide))), ?_⟩ dX6_addSeal_26
  have g := hq2.2
  have hse : pu_seal (σ.1 57) (σ.1 58) n z = pu_seal (σ.1 57) (lf fl_) n z := by
    have q := rh_lf hm.1
    rw [hn] at q
    exact pu_seal_eq pu_eq.rf q z
  rw [List.append_assoc, byl_two, hs.2 0 (by decide), hs.2 1 (by decide), hse] at g
  exact g

set_option maxHeartbeats 4000000 in
set_option maxRecDepth 100000 in
/-- the content is hidden, or shown -/
theorem m_cover (l : Launch) (E : cv_E) (σ : cv_S) (n : Nat) (hb : 21 + n ≤ 300) (sr : Int32) : cv_Mv l E yX6_cover wsX6_cover (cv_R 4) [.ref (E.2.1 49), .int (nI n), .int sr] σ (fun τ => cv_fr [54, 55, 56, 58] σ τ ∧ τ.1 58 = pu_put (σ.1 58) (fun j => σ.1 58 (21 + j) ^^^ pu_strm (σ.1 57) sr j) 21 n) := by
  intro sz
  refine cv_in (ws := wsX6_cover) (cc := cX6_cover) (maxL := 4) (ret := none) (own := RX6) rfl (by decide) rfl (Nat.le_of_ble_eq_true rfl) ?_
  intro p e s m below meth c S K hr hlk hsz h ls hl
  have hl : lv_has ls 4 [(0, .ref (E.2.1 49)), (1, .int (nI n)), (2, .int sr)] := hl
  have hinX6 : ∀ w ∈ u_ws RX6 TX6 18, w ∈ wsX6_cover := by decide +kernel
  have hf_23 := S.2.2.2.2 (.fieldLink RX6 23 "CrashVaultModel" "state" "[I") (by decide +kernel)
  have hf_35 := S.2.2.2.2 (.fieldLink RX6 35 "CrashVaultModel" "file" "[I") (by decide +kernel)
  refine lv_iconst (v := 0) S.1 S.2.1 dX6_cover_0 (by decide) ?_
  refine lv_istore_n (lv' := [(3, .int 0), (0, .ref (E.2.1 49)), (1, .int (nI n)), (2, .int sr)]) S.1 S.2.1 dX6_cover_1 rfl hl (by decide) rfl (fun ls hl => ?_)
  refine cv_loop (α := Unit) (nL := 4) n (fun i a τ => cv_fr [54, 55, 56, 58] σ τ ∧ τ.1 58 = pu_put (σ.1 58) (fun j => σ.1 58 (21 + j) ^^^ pu_strm (σ.1 57) sr j) 21 i ∧ (i % 64 ≠ 0 → pu_eq 16 (τ.1 54) (pu_blk (σ.1 57) (nI (i / 64)) sr 5))) (fun i a => [(3, .int (nI i)), (0, .ref (E.2.1 49)), (1, .int (nI n)), (2, .int sr)]) ?_ ?_ 0 () σ _ _ _ (by omega) (⟨cv_fr.rf, (pu_put_0 _ _ _).symm, fun q => absurd rfl q⟩) h hl
  · intro i a τ H locs ls hi hI h hl ih
    have hl : lv_has ls 4 [(3, .int (nI i)), (0, .ref (E.2.1 49)), (1, .int (nI n)), (2, .int sr)] := hl
    refine lv_iload_n S.1 S.2.1 dX6_cover_2 rfl (lv_at hl 0 rfl) ?_
    refine lv_iload_n S.1 S.2.1 dX6_cover_3 rfl (lv_at hl 2 rfl) ?_
    refine lv_icmp_ge (tgt := 75) S.1 S.2.1 dX6_cover_4 (by decide) (fun c1 => ?_) (fun c1 => ?_)
    · exact absurd c1 (nI_ge hi (by omega))
    · have key : ∀ (τ' : cv_S) (H : Heap) (locs : List Loc) (ls : Array Slot), cv_fr [54, 55, 56, 58] σ τ' → τ'.1 58 = pu_put (σ.1 58) (fun j => σ.1 58 (21 + j) ^^^ pu_strm (σ.1 57) sr j) 21 i → pu_eq 16 (τ'.1 54) (pu_blk (σ.1 57) (nI (i / 64)) sr 5) → cv_H E τ' s H locs → lv_has ls 4 [(3, .int (nI i)), (0, .ref (E.2.1 49)), (1, .int (nI n)), (2, .int sr)] → W p l e (cv_R 4) s m ([.ref (E.2.1 49), .int (nI n), .int sr] : List Value).toArray below meth c H locs 0 0 (MQ below (va_Qv (fun τ => cv_fr [54, 55, 56, 58] σ τ ∧ τ.1 58 = pu_put (σ.1 58) (fun j => σ.1 58 (21 + j) ^^^ pu_strm (σ.1 57) sr j) 21 n) (cv_B E) (cv_A E sz)) ([.ref (E.2.1 49), .int (nI n), .int sr] : List Value).toArray s 0 0 (cv_A E sz)) (F0 m 28 ls []) := by
        intro τ' H locs ls g1 g2 g3 h hl
        refine lv_aload_n S.1 S.2.1 dX6_cover_28 rfl (lv_at hl 1 rfl) ?_
        refine cv_gf (ci := 6) (C := RX6) (T := TX6) (N := 18) (v := .ref (E.2.1 58)) S K h 49 rfl hinX6 rfl rfl 16 (by decide) hf_35 rfl rfl dX6_cover_29 ?_
        refine lv_bipush (v := 21) S.1 S.2.1 dX6_cover_32 (by decide) ?_
        refine lv_iload_n S.1 S.2.1 dX6_cover_34 rfl (lv_at hl 0 rfl) ?_
        refine lv_iadd S.1 S.2.1 dX6_cover_35 ?_
        refine cv_rei (show (21 + ((nI i))) = nI (21 + i) from nI_add 21 i) ?_
        refine lv_aload_n S.1 S.2.1 dX6_cover_36 rfl (lv_at hl 1 rfl) ?_
        refine cv_gf (ci := 6) (C := RX6) (T := TX6) (N := 18) (v := .ref (E.2.1 58)) S K h 49 rfl hinX6 rfl rfl 16 (by decide) hf_35 rfl rfl dX6_cover_37 ?_
        refine lv_bipush (v := 21) S.1 S.2.1 dX6_cover_40 (by decide) ?_
        refine lv_iload_n S.1 S.2.1 dX6_cover_42 rfl (lv_at hl 0 rfl) ?_
        refine lv_iadd S.1 S.2.1 dX6_cover_43 ?_
        refine cv_rei (show (21 + ((nI i))) = nI (21 + i) from nI_add 21 i) ?_
        refine cv_iald S K h 58 rfl (n := 300) rfl (21 + i) rfl (by omega) dX6_cover_44 ?_
        refine lv_aload_n S.1 S.2.1 dX6_cover_45 rfl (lv_at hl 1 rfl) ?_
        refine cv_gf (ci := 6) (C := RX6) (T := TX6) (N := 18) (v := .ref (E.2.1 54)) S K h 49 rfl hinX6 rfl rfl 12 (by decide) hf_23 rfl rfl dX6_cover_46 ?_
        refine lv_iload_n S.1 S.2.1 dX6_cover_49 rfl (lv_at hl 0 rfl) ?_
        refine lv_bipush (v := 64) S.1 S.2.1 dX6_cover_50 (by decide) ?_
        refine lv_irem S.1 S.2.1 dX6_cover_52 (by decide) ?_
        refine cv_rei (show (((nI i)) - ((nI i)) / 64 * 64) = nI (i % 64) from pk_rem (a := i) (d := 64) (by omega) (by decide) (by decide)) ?_
        refine lv_iconst (v := 4) S.1 S.2.1 dX6_cover_53 (by decide) ?_
        refine lv_idiv S.1 S.2.1 dX6_cover_54 (by decide) ?_
        refine cv_rei (show (((nI (i % 64))) / 4) = nI (i % 64 / 4) from pk_div (d := 4) (by omega) (by decide) (by decide)) ?_
        refine cv_iald S K h 54 rfl (n := 16) rfl (i % 64 / 4) rfl (by omega) dX6_cover_55 ?_
        refine lv_bipush (v := 8) S.1 S.2.1 dX6_cover_56 (by decide) ?_
        refine lv_iload_n S.1 S.2.1 dX6_cover_58 rfl (lv_at hl 0 rfl) ?_
        refine lv_iconst (v := 4) S.1 S.2.1 dX6_cover_59 (by decide) ?_
        refine lv_irem S.1 S.2.1 dX6_cover_60 (by decide) ?_
        refine cv_rei (show (((nI i)) - ((nI i)) / 4 * 4) = nI (i % 4) from pk_rem (a := i) (d := 4) (by omega) (by decide) (by decide)) ?_
        refine lv_imul S.1 S.2.1 dX6_cover_61 ?_
        refine lv_ishr S.1 S.2.1 dX6_cover_62 ?_
        refine lv_sipush (v := 255) S.1 S.2.1 dX6_cover_63 (by decide) ?_
        refine lv_iand S.1 S.2.1 dX6_cover_66 ?_
        refine lv_ixor S.1 S.2.1 dX6_cover_67 ?_
        refine lv_topi (fun xv exv => ?_)
        refine cv_iast (x := xv) S K h 58 rfl (n := 300) rfl (21 + i) rfl (by omega) dX6_cover_68 (fun σ22 H locs eσ22 h => ?_)
        obtain ⟨z5, ez5⟩ : ∃ y : Int32, y = ((nI i)) + 1 := ⟨_, rfl⟩
        refine lv_iinc (v := z5) (lv' := [(3, .int z5), (0, .ref (E.2.1 49)), (1, .int (nI n)), (2, .int sr)]) S.1 S.2.1 dX6_cover_69 hl (k := 0) rfl (by rw [ez5]; rfl) (by decide) rfl (fun ls hl => ?_)
        refine lv_goto (tgt := 2) S.1 S.2.1 dX6_cover_72 (by decide) ?_
        rw [ez5, nI_1] at hl
        refine ih () σ22 H locs ls ?_ h hl
        rw [eσ22]
        refine ⟨g1.trans (cv_fr.up (by decide)), ?_, fun hne j hj => ?_⟩
        · rw [cv_I1, if_pos rfl, ← pu_put_s, exv, g2, pu_put_out (by omega), g3 _ (by omega), ib_shr _ (show i % 4 < 4 by omega), pu_strm_n]
          unfold stn
          rw [show i % 64 % 4 = i % 4 by omega]
        · rw [cv_I1, if_neg (by decide), show (i + 1) / 64 = i / 64 by omega]; exact g3 j hj
      refine lv_iload_n S.1 S.2.1 dX6_cover_7 rfl (lv_at hl 0 rfl) ?_
      refine lv_bipush (v := 64) S.1 S.2.1 dX6_cover_8 (by decide) ?_
      refine lv_irem S.1 S.2.1 dX6_cover_10 (by decide) ?_
      refine cv_rei (show (((nI i)) - ((nI i)) / 64 * 64) = nI (i % 64) from pk_rem (a := i) (d := 64) (by omega) (by decide) (by decide)) ?_
      refine lv_if_ne (tgt := 28) S.1 S.2.1 dX6_cover_11 (by decide) (fun c2 => ?_) (fun c2 => ?_)
      · refine key τ H locs ls hI.1 hI.2.1 (hI.2.2 (fun q => c2 ?_)) h hl
        rw [q]
        rfl
      · refine lv_aload_n S.1 S.2.1 dX6_cover_14 rfl (lv_at hl 1 rfl) ?_
        refine cv_callv (ci := 6) (C := RX6) (T := TX6) (N := 18) S K h hl.1 rfl rfl rfl (m_setMain l E τ) (cwV 0 S.2.2.2.2 gX6_cover_X6_setMain rfl rfl rfl (by decide +kernel) ⟨Nat.le_of_ble_eq_true rfl, Nat.le_of_ble_eq_true rfl⟩) rfl rfl (Nat.le_of_ble_eq_true rfl) ⟨Nat.zero_le _, Nat.zero_le _⟩ dX6_cover_15 (fun σ23 H locs hq1 h => ?_)
        refine lv_aload_n S.1 S.2.1 dX6_cover_18 rfl (lv_at hl 1 rfl) ?_
        refine lv_iload_n S.1 S.2.1 dX6_cover_19 rfl (lv_at hl 0 rfl) ?_
        refine lv_bipush (v := 64) S.1 S.2.1 dX6_cover_20 (by decide) ?_
        refine lv_idiv S.1 S.2.1 dX6_cover_22 (by decide) ?_
        refine cv_rei (show (((nI i)) / 64) = nI (i / 64) from pk_div (d := 64) (by omega) (by decide) (by decide)) ?_
        refine lv_iload_n S.1 S.2.1 dX6_cover_23 rfl (lv_at hl 3 rfl) ?_
        refine lv_iconst (v := 5) S.1 S.2.1 dX6_cover_24 (by decide) ?_
        refine cv_callv (ci := 6) (C := RX6) (T := TX6) (N := 18) S K h hl.1 rfl rfl rfl (m_block l E σ23 (nI (i / 64)) sr 5) (cwV 3 S.2.2.2.2 gX6_cover_X6_block rfl rfl rfl (by decide +kernel) ⟨Nat.le_of_ble_eq_true rfl, Nat.le_of_ble_eq_true rfl⟩) rfl rfl (Nat.le_of_ble_eq_true rfl) ⟨Nat.zero_le _, Nat.zero_le _⟩ dX6_cover_25 (fun σ24 H locs hq2 h => ?_)
        refine key σ24 H locs ls (hI.1.trans ((hq1.1.mono (by decide)).trans (hq2.1.mono (by decide)))) ((hq2.1.1 58 (by decide)).trans ((hq1.1.1 58 (by decide)).trans hI.2.1)) ?_ h hl
        have g := hq2.2
        rw [pu_blk_eq hq1.2, hI.1.1 57 (by decide)] at g
        exact g
  · intro a τ H locs ls hI h hl
    have hl : lv_has ls 4 [(3, .int (nI n)), (0, .ref (E.2.1 49)), (1, .int (nI n)), (2, .int sr)] := hl
    refine lv_iload_n S.1 S.2.1 dX6_cover_2 rfl (lv_at hl 0 rfl) ?_
    refine lv_iload_n S.1 S.2.1 dX6_cover_3 rfl (lv_at hl 2 rfl) ?_
    refine lv_icmp_ge (tgt := 75) S.1 S.2.1 dX6_cover_4 (by decide) (fun c1 => ?_) (fun c1 => ?_)
    · exact cv_vret S hr hlk hsz h ⟨hI.1, hI.2.1⟩ dX6_cover_75
    · exact absurd (Int32.le_refl _) c1

set_option maxHeartbeats 4000000 in
set_option maxRecDepth 100000 in
theorem m_contentSize (l : Launch) (E : cv_E) (σ : cv_S) (cnt : Nat) (N : Nat → Int64) (O : Nat → Nat) (V : Nat → Nat → Int64) (hR : em_R σ cnt N O V) : cv_Mi l E yX6_contentSize wsX6_contentSize (cv_R 1) [.ref (E.2.1 49)] σ (fun r τ => r = nI (co_sz O cnt) ∧ τ = σ) := by
  intro sz
  refine cv_in (ws := wsX6_contentSize) (cc := cX6_contentSize) (maxL := 3) (ret := (some .int)) (own := RX6) rfl (by decide) rfl (Nat.le_of_ble_eq_true rfl) ?_
  intro p e s m below meth c S K hr hlk hsz h ls hl
  have hl : lv_has ls 3 [(0, .ref (E.2.1 49))] := hl
  have hinX6 : ∀ w ∈ u_ws RX6 TX6 18, w ∈ wsX6_contentSize := by decide +kernel
  have hf_17 := S.2.2.2.2 (.fieldLink RX6 17 "CrashVaultModel" "olds" "[I") (by decide +kernel)
  have hf_78 := S.2.2.2.2 (.fieldLink RX6 78 "CrashVaultModel" "entries" "I") (by decide +kernel)
  obtain ⟨q1, q2, q3⟩ := hR
  refine lv_iconst (v := 1) S.1 S.2.1 dX6_contentSize_0 (by decide) ?_
  refine lv_istore_n (lv' := [(1, .int 1), (0, .ref (E.2.1 49))]) S.1 S.2.1 dX6_contentSize_1 rfl hl (by decide) rfl (fun ls hl => ?_)
  refine lv_iconst (v := 0) S.1 S.2.1 dX6_contentSize_2 (by decide) ?_
  refine lv_istore_n (lv' := [(2, .int 0), (1, .int 1), (0, .ref (E.2.1 49))]) S.1 S.2.1 dX6_contentSize_3 rfl hl (by decide) rfl (fun ls hl => ?_)
  refine cv_loop (α := Unit) (nL := 3) cnt (fun i a τ => τ = σ) (fun i a => [(2, .int (nI i)), (1, .int (nI (co_sz O i))), (0, .ref (E.2.1 49))]) ?_ ?_ 0 () σ _ _ _ (by omega) (rfl) h hl
  · intro i a τ H locs ls hi hI h hl ih
    have hl : lv_has ls 3 [(2, .int (nI i)), (1, .int (nI (co_sz O i))), (0, .ref (E.2.1 49))] := hl
    rw [hI] at h
    refine lv_iload_n S.1 S.2.1 dX6_contentSize_4 rfl (lv_at hl 0 rfl) ?_
    refine lv_aload_n S.1 S.2.1 dX6_contentSize_5 rfl (lv_at hl 2 rfl) ?_
    refine cv_gf (ci := 6) (C := RX6) (T := TX6) (N := 18) (v := .int (σ.2.2.1 49 8)) S K h 49 rfl hinX6 rfl rfl 8 (by decide) hf_78 rfl rfl dX6_contentSize_6 ?_
    refine lv_icmp_ge (tgt := 33) S.1 S.2.1 dX6_contentSize_9 (by decide) (fun c1 => ?_) (fun c1 => ?_)
    · rw [q1] at c1
      exact absurd c1 (nI_ge hi (by omega))
    · refine lv_iload_n S.1 S.2.1 dX6_contentSize_12 rfl (lv_at hl 1 rfl) ?_
      refine lv_bipush (v := 17) S.1 S.2.1 dX6_contentSize_13 (by decide) ?_
      refine lv_iadd S.1 S.2.1 dX6_contentSize_15 ?_
      refine lv_bipush (v := 8) S.1 S.2.1 dX6_contentSize_16 (by decide) ?_
      refine lv_aload_n S.1 S.2.1 dX6_contentSize_18 rfl (lv_at hl 2 rfl) ?_
      refine cv_gf (ci := 6) (C := RX6) (T := TX6) (N := 18) (v := .ref (E.2.1 52)) S K h 49 rfl hinX6 rfl rfl 10 (by decide) hf_17 rfl rfl dX6_contentSize_19 ?_
      refine lv_iload_n S.1 S.2.1 dX6_contentSize_22 rfl (lv_at hl 0 rfl) ?_
      refine cv_iald S K h 52 rfl (n := 8) rfl i rfl (by omega) dX6_contentSize_23 ?_
      refine lv_imul S.1 S.2.1 dX6_contentSize_24 ?_
      refine lv_iadd S.1 S.2.1 dX6_contentSize_25 ?_
      refine cv_rei (show (((((nI (co_sz O i))) + 17)) + ((8 * ((σ.1 52 i))))) = nI (co_sz O (i + 1)) from by rw [(q3 i hi).2.1, show (8 : Int32) * nI (O i) = nI (8 * O i) from pk_mul 8 _, show nI (co_sz O i) + 17 = nI (co_sz O i + 17) from nI_add _ 17, nI_add, Nat.add_assoc]; rfl) ?_
      refine lv_istore_n (lv' := [(1, .int (nI (co_sz O (i + 1)))), (2, .int (nI i)), (0, .ref (E.2.1 49))]) S.1 S.2.1 dX6_contentSize_26 rfl hl (by decide) rfl (fun ls hl => ?_)
      obtain ⟨z5, ez5⟩ : ∃ y : Int32, y = ((nI i)) + 1 := ⟨_, rfl⟩
      refine lv_iinc (v := z5) (lv' := [(2, .int z5), (1, .int (nI (co_sz O (i + 1)))), (0, .ref (E.2.1 49))]) S.1 S.2.1 dX6_contentSize_27 hl (k := 1) rfl (by rw [ez5]; rfl) (by decide) rfl (fun ls hl => ?_)
      refine lv_goto (tgt := 4) S.1 S.2.1 dX6_contentSize_30 (by decide) ?_
      rw [ez5, nI_1] at hl
      exact ih () σ H locs ls rfl h hl
  · intro a τ H locs ls hI h hl
    have hl : lv_has ls 3 [(2, .int (nI cnt)), (1, .int (nI (co_sz O cnt))), (0, .ref (E.2.1 49))] := hl
    rw [hI] at h
    refine lv_iload_n S.1 S.2.1 dX6_contentSize_4 rfl (lv_at hl 0 rfl) ?_
    refine lv_aload_n S.1 S.2.1 dX6_contentSize_5 rfl (lv_at hl 2 rfl) ?_
    refine cv_gf (ci := 6) (C := RX6) (T := TX6) (N := 18) (v := .int (σ.2.2.1 49 8)) S K h 49 rfl hinX6 rfl rfl 8 (by decide) hf_78 rfl rfl dX6_contentSize_6 ?_
    refine lv_icmp_ge (tgt := 33) S.1 S.2.1 dX6_contentSize_9 (by decide) (fun c1 => ?_) (fun c1 => ?_)
    · refine lv_iload_n S.1 S.2.1 dX6_contentSize_33 rfl (lv_at hl 1 rfl) ?_
      exact cv_iret S hr hlk hsz h ⟨rfl, rfl⟩ dX6_contentSize_34
    · rw [q1] at c1
      exact absurd (Int32.le_refl _) c1
