/-! 18: EntryList: clearAll, find, copyEntry -/
set_option maxHeartbeats 4000000 in
set_option maxRecDepth 100000 in
theorem c_clearAll (l : Launch) (E : cv_E) (σ : cv_S) (v : Nat) (hv : v < 3) : cv_Mv l E yX2_clearAll wsX2_clearAll (cv_R 1) [.ref (E.2.1 (v + 13))] σ (fun τ => τ = cv_uF σ (v + 13) 3 0) := by
  intro sz
  refine cv_in (ws := wsX2_clearAll) (cc := cX2_clearAll) (maxL := 1) (ret := none) (own := RX2) rfl (by decide) rfl (Nat.le_of_ble_eq_true rfl) ?_
  intro p e s m below meth c S K hr hlk hsz h ls hl
  have hl : lv_has ls 1 [(0, .ref (E.2.1 (v + 13)))] := hl
  have hinX2 : ∀ w ∈ u_ws RX2 TX2 4, w ∈ wsX2_clearAll := by decide +kernel
  have hf_24 := S.2.2.2.2 (.fieldLink RX2 24 "CrashVault$EntryList" "count" "I") (by decide +kernel)
  refine lv_aload_n S.1 S.2.1 dX2_clearAll_0 rfl (lv_at hl 0 rfl) ?_
  refine lv_iconst (v := 0) S.1 S.2.1 dX2_clearAll_1 (by decide) ?_
  refine cv_pf (ci := 2) (C := RX2) (T := TX2) (N := 4) (x := 0) S K h (v + 13) (cv_kdV v hv).2.1 hinX2 (cv_fsL hv) rfl 3 cv_pok_X2_3 hf_24 rfl rfl rfl (Nat.le_of_ble_eq_true rfl) (cv_fsL hv) dX2_clearAll_2 (fun σ1 H locs eσ1 h => ?_)
  exact cv_vret S hr hlk hsz h eσ1 dX2_clearAll_5

set_option maxHeartbeats 4000000 in
set_option maxRecDepth 100000 in
/-- where a name is -/
theorem c_find (l : Launch) (E : cv_E) (σ : cv_S) (v : Nat) (hv : v < 3) (cnt : Nat) (hc8 : cnt ≤ 8) (hct : σ.2.2.1 (v + 13) 3 = nI cnt) (nm : Int64) : cv_Mi l E yX2_find wsX2_find (cv_R 1) [.ref (E.2.1 (v + 13)), .long nm] σ (fun r τ => ((∃ i, i < cnt ∧ σ.2.1 (v + 16) i = nm ∧ (∀ j, j < i → σ.2.1 (v + 16) j ≠ nm) ∧ r = nI i) ∨ ((∀ j, j < cnt → σ.2.1 (v + 16) j ≠ nm) ∧ r = -1)) ∧ τ = σ) := by
  intro sz
  refine cv_in (ws := wsX2_find) (cc := cX2_find) (maxL := 4) (ret := (some .int)) (own := RX2) rfl (by decide) rfl (Nat.le_of_ble_eq_true rfl) ?_
  intro p e s m below meth c S K hr hlk hsz h ls hl
  have hl : lv_has ls 4 [(0, .ref (E.2.1 (v + 13))), (1, .long nm)] := hl
  have hinX2 : ∀ w ∈ u_ws RX2 TX2 4, w ∈ wsX2_find := by decide +kernel
  have hf_24 := S.2.2.2.2 (.fieldLink RX2 24 "CrashVault$EntryList" "count" "I") (by decide +kernel)
  have hf_9 := S.2.2.2.2 (.fieldLink RX2 9 "CrashVault$EntryList" "names" "[J") (by decide +kernel)
  refine lv_iconst (v := 0) S.1 S.2.1 dX2_find_0 (by decide) ?_
  refine lv_istore_n (lv' := [(3, .int 0), (0, .ref (E.2.1 (v + 13))), (1, .long nm)]) S.1 S.2.1 dX2_find_1 rfl hl (by decide) rfl (fun ls hl => ?_)
  refine cv_loop (α := Unit) (nL := 4) cnt (fun i a τ => τ = σ ∧ ∀ j, j < i → σ.2.1 (v + 16) j ≠ nm) (fun i a => [(3, .int (nI i)), (0, .ref (E.2.1 (v + 13))), (1, .long nm)]) ?_ ?_ 0 () σ _ _ _ (by omega) (⟨rfl, fun j hj => absurd hj (Nat.not_lt_zero j)⟩) h hl
  · intro i a τ H locs ls hi hI h hl ih
    have hl : lv_has ls 4 [(3, .int (nI i)), (0, .ref (E.2.1 (v + 13))), (1, .long nm)] := hl
    obtain ⟨g1, g2⟩ := hI
    rw [g1] at h
    refine lv_iload_n S.1 S.2.1 dX2_find_2 rfl (lv_at hl 0 rfl) ?_
    refine lv_aload_n S.1 S.2.1 dX2_find_3 rfl (lv_at hl 1 rfl) ?_
    refine cv_gf (ci := 2) (C := RX2) (T := TX2) (N := 4) (v := .int (σ.2.2.1 (v + 13) 3)) S K h (v + 13) (cv_kdV v hv).2.1 hinX2 (cv_fsL hv) rfl 3 (by decide) hf_24 rfl rfl dX2_find_4 ?_
    refine lv_icmp_ge (tgt := 29) S.1 S.2.1 dX2_find_7 (by decide) (fun c1 => ?_) (fun c1 => ?_)
    · rw [hct] at c1
      exact absurd c1 (nI_ge hi (by omega))
    · refine lv_aload_n S.1 S.2.1 dX2_find_10 rfl (lv_at hl 1 rfl) ?_
      refine cv_gf (ci := 2) (C := RX2) (T := TX2) (N := 4) (v := .ref (E.2.1 (v + 16))) S K h (v + 13) (cv_kdV v hv).2.1 hinX2 (cv_fsL hv) rfl 0 (by decide) hf_9 rfl rfl dX2_find_11 ?_
      refine lv_iload_n S.1 S.2.1 dX2_find_14 rfl (lv_at hl 0 rfl) ?_
      refine cv_lald S K h (v + 16) (cv_kdV v hv).2.2.1 (cv_kdV v hv).2.2.2.2.2.1 i rfl (by omega) dX2_find_15 ?_
      refine lv_lload_n S.1 S.2.1 dX2_find_16 rfl (lv_at hl 2 rfl) ?_
      refine W.lcmp S.1 S.2.1 dX2_find_17 ?_
      refine lv_if_ne (tgt := 23) S.1 S.2.1 dX2_find_18 (by decide) (fun c2 => ?_) (fun c2 => ?_)
      · obtain ⟨z5, ez5⟩ : ∃ y : Int32, y = ((nI i)) + 1 := ⟨_, rfl⟩
        refine lv_iinc (v := z5) (lv' := [(3, .int z5), (0, .ref (E.2.1 (v + 13))), (1, .long nm)]) S.1 S.2.1 dX2_find_23 hl (k := 0) rfl (by rw [ez5]; rfl) (by decide) rfl (fun ls hl => ?_)
        refine lv_goto (tgt := 2) S.1 S.2.1 dX2_find_26 (by decide) ?_
        rw [ez5, nI_1] at hl
        refine ih () σ H locs ls ⟨rfl, fun j hj => ?_⟩ h hl
        by_cases hji : j = i
        · rw [hji]; exact fun q => c2 (lg_eq0.mpr q)
        · exact g2 j (by omega)
      · refine lv_iload_n S.1 S.2.1 dX2_find_21 rfl (lv_at hl 0 rfl) ?_
        exact cv_iret S hr hlk hsz h ⟨Or.inl ⟨i, hi, lg_eq0.mp c2, g2, rfl⟩, rfl⟩ dX2_find_22
  · intro a τ H locs ls hI h hl
    have hl : lv_has ls 4 [(3, .int (nI cnt)), (0, .ref (E.2.1 (v + 13))), (1, .long nm)] := hl
    obtain ⟨g1, g2⟩ := hI
    rw [g1] at h
    refine lv_iload_n S.1 S.2.1 dX2_find_2 rfl (lv_at hl 0 rfl) ?_
    refine lv_aload_n S.1 S.2.1 dX2_find_3 rfl (lv_at hl 1 rfl) ?_
    refine cv_gf (ci := 2) (C := RX2) (T := TX2) (N := 4) (v := .int (σ.2.2.1 (v + 13) 3)) S K h (v + 13) (cv_kdV v hv).2.1 hinX2 (cv_fsL hv) rfl 3 (by decide) hf_24 rfl rfl dX2_find_4 ?_
    refine lv_icmp_ge (tgt := 29) S.1 S.2.1 dX2_find_7 (by decide) (fun c1 => ?_) (fun c1 => ?_)
    · refine lv_iconst (v := (-1)) S.1 S.2.1 dX2_find_29 (by decide) ?_
      exact cv_iret S hr hlk hsz h ⟨Or.inr ⟨g2, rfl⟩, rfl⟩ dX2_find_30
    · rw [hct] at c1
      exact absurd (Int32.le_refl _) c1

set_option maxHeartbeats 4000000 in
set_option maxRecDepth 100000 in
/-- the entry fi of list w becomes the entry ti of list v -/
theorem c_copyEntry (l : Launch) (E : cv_E) (σ : cv_S) (v w : Nat) (hv : v < 3) (hw : w < 3) (fi ti : Nat) (hfi : fi < 8) (hti : ti < 8) : cv_Mv l E yX2_copyEntry wsX2_copyEntry (cv_R 1) [.ref (E.2.1 (v + 13)), .ref (E.2.1 (w + 13)), .int (nI fi), .int (nI ti)] σ (fun τ => el_C σ τ v w fi ti) := by
  intro sz
  refine cv_in (ws := wsX2_copyEntry) (cc := cX2_copyEntry) (maxL := 5) (ret := none) (own := RX2) rfl (by decide) rfl (Nat.le_of_ble_eq_true rfl) ?_
  intro p e s m below meth c S K hr hlk hsz h ls hl
  have hl : lv_has ls 5 [(0, .ref (E.2.1 (v + 13))), (1, .ref (E.2.1 (w + 13))), (2, .int (nI fi)), (3, .int (nI ti))] := hl
  have hinX2 : ∀ w ∈ u_ws RX2 TX2 4, w ∈ wsX2_copyEntry := by decide +kernel
  have hf_15 := S.2.2.2.2 (.fieldLink RX2 15 "CrashVault$EntryList" "olds" "[I") (by decide +kernel)
  have hf_21 := S.2.2.2.2 (.fieldLink RX2 21 "CrashVault$EntryList" "values" "[[J") (by decide +kernel)
  have hf_9 := S.2.2.2.2 (.fieldLink RX2 9 "CrashVault$EntryList" "names" "[J") (by decide +kernel)
  refine lv_aload_n S.1 S.2.1 dX2_copyEntry_0 rfl (lv_at hl 0 rfl) ?_
  refine cv_gf (ci := 2) (C := RX2) (T := TX2) (N := 4) (v := .ref (E.2.1 (v + 16))) S K h (v + 13) (cv_kdV v hv).2.1 hinX2 (cv_fsL hv) rfl 0 (by decide) hf_9 rfl rfl dX2_copyEntry_1 ?_
  refine lv_iload_n S.1 S.2.1 dX2_copyEntry_4 rfl (lv_at hl 3 rfl) ?_
  refine lv_aload_n S.1 S.2.1 dX2_copyEntry_5 rfl (lv_at hl 1 rfl) ?_
  refine cv_gf (ci := 2) (C := RX2) (T := TX2) (N := 4) (v := .ref (E.2.1 (w + 16))) S K h (w + 13) (cv_kdV w hw).2.1 hinX2 (cv_fsL hw) rfl 0 (by decide) hf_9 rfl rfl dX2_copyEntry_6 ?_
  refine lv_iload_n S.1 S.2.1 dX2_copyEntry_9 rfl (lv_at hl 2 rfl) ?_
  refine cv_lald S K h (w + 16) (cv_kdV w hw).2.2.1 (cv_kdV w hw).2.2.2.2.2.1 fi rfl hfi dX2_copyEntry_10 ?_
  refine lv_topl (fun nx enx => ?_)
  refine cv_last (x := nx) S K h (v + 16) (cv_kdV v hv).2.2.1 (cv_kdV v hv).2.2.2.2.2.1 ti rfl hti dX2_copyEntry_11 (fun σ2 H locs eσ2 h => ?_)
  refine lv_aload_n S.1 S.2.1 dX2_copyEntry_12 rfl (lv_at hl 0 rfl) ?_
  refine cv_gf (ci := 2) (C := RX2) (T := TX2) (N := 4) (v := .ref (E.2.1 (v + 19))) S K h (v + 13) (cv_kdV v hv).2.1 hinX2 (cv_fsL hv) rfl 1 (by decide) hf_15 rfl rfl dX2_copyEntry_13 ?_
  refine lv_iload_n S.1 S.2.1 dX2_copyEntry_16 rfl (lv_at hl 3 rfl) ?_
  refine lv_aload_n S.1 S.2.1 dX2_copyEntry_17 rfl (lv_at hl 1 rfl) ?_
  refine cv_gf (ci := 2) (C := RX2) (T := TX2) (N := 4) (v := .ref (E.2.1 (w + 19))) S K h (w + 13) (cv_kdV w hw).2.1 hinX2 (cv_fsL hw) rfl 1 (by decide) hf_15 rfl rfl dX2_copyEntry_18 ?_
  refine lv_iload_n S.1 S.2.1 dX2_copyEntry_21 rfl (lv_at hl 2 rfl) ?_
  refine cv_iald S K h (w + 19) (cv_kdV w hw).2.2.2.1 (cv_kdV w hw).2.2.2.2.2.2 fi rfl hfi dX2_copyEntry_22 ?_
  refine lv_topi (fun ox eox => ?_)
  refine cv_iast (x := ox) S K h (v + 19) (cv_kdV v hv).2.2.2.1 (cv_kdV v hv).2.2.2.2.2.2 ti rfl hti dX2_copyEntry_23 (fun σ3 H locs eσ3 h => ?_)
  refine lv_iconst (v := 0) S.1 S.2.1 dX2_copyEntry_24 (by decide) ?_
  refine lv_istore (lv' := [(4, .int 0), (0, .ref (E.2.1 (v + 13))), (1, .ref (E.2.1 (w + 13))), (2, .int (nI fi)), (3, .int (nI ti))]) S.1 S.2.1 dX2_copyEntry_25 hl (by decide) rfl (fun ls hl => ?_)
  have hst : σ3.1 = va_up σ.1 (v + 19) (upd (σ.1 (v + 19)) ti (σ.1 (w + 19) fi)) ∧ σ3.2.2 = σ.2.2 ∧ σ3.2.1 (v + 16) = vp_updL (σ.2.1 (v + 16)) ti (σ.2.1 (w + 16) fi) ∧ (∀ k, k < 0 → σ3.2.1 (8 * v + ti + 25) k = σ.2.1 (8 * w + fi + 25) k) ∧ (∀ k, 0 ≤ k → σ3.2.1 (8 * v + ti + 25) k = σ.2.1 (8 * v + ti + 25) k) ∧ (∀ q, q ≠ v + 16 → q ≠ 8 * v + ti + 25 → σ3.2.1 q = σ.2.1 q) := by
    have r1 : σ3.1 = va_up σ.1 (v + 19) (upd (σ.1 (v + 19)) ti (σ.1 (w + 19) fi)) := by rw [eσ3, eox, eσ2]; rfl
    have r2 : σ3.2.2 = σ.2.2 := by rw [eσ3, eσ2]; rfl
    have r3 : ∀ q, σ3.2.1 q = if q = v + 16 then vp_updL (σ.2.1 (v + 16)) ti (σ.2.1 (w + 16) fi) else σ.2.1 q := fun q => by rw [eσ3, cv_I2, eσ2, enx]; rfl
    exact ⟨r1, r2, by rw [r3, if_pos rfl], fun k hk => absurd hk (Nat.not_lt_zero k), fun k _ => by rw [r3, if_neg (by omega)], fun q h1 _ => by rw [r3, if_neg h1]⟩
  refine cv_loop (α := Unit) (nL := 5) 3 (fun i a τ => τ.1 = va_up σ.1 (v + 19) (upd (σ.1 (v + 19)) ti (σ.1 (w + 19) fi)) ∧ τ.2.2 = σ.2.2 ∧ τ.2.1 (v + 16) = vp_updL (σ.2.1 (v + 16)) ti (σ.2.1 (w + 16) fi) ∧ (∀ k, k < i → τ.2.1 (8 * v + ti + 25) k = σ.2.1 (8 * w + fi + 25) k) ∧ (∀ k, i ≤ k → τ.2.1 (8 * v + ti + 25) k = σ.2.1 (8 * v + ti + 25) k) ∧ (∀ q, q ≠ v + 16 → q ≠ 8 * v + ti + 25 → τ.2.1 q = σ.2.1 q)) (fun i a => [(4, .int (nI i)), (0, .ref (E.2.1 (v + 13))), (1, .ref (E.2.1 (w + 13))), (2, .int (nI fi)), (3, .int (nI ti))]) ?_ ?_ 0 () σ3 _ _ _ (by omega) (hst) h hl
  · intro i a τ H locs ls hi hI h hl ih
    have hl : lv_has ls 5 [(4, .int (nI i)), (0, .ref (E.2.1 (v + 13))), (1, .ref (E.2.1 (w + 13))), (2, .int (nI fi)), (3, .int (nI ti))] := hl
    obtain ⟨g1, g2, g3, g4, g5, g6⟩ := hI
    refine lv_iload S.1 S.2.1 dX2_copyEntry_27 (lv_at hl 0 rfl) ?_
    refine lv_iconst (v := 2) S.1 S.2.1 dX2_copyEntry_29 (by decide) ?_
    refine lv_icmp_gt (tgt := 57) S.1 S.2.1 dX2_copyEntry_30 (by decide) (fun c1 => ?_) (fun c1 => ?_)
    · exact absurd c1 (show ¬ nI 2 < nI i from nI_nlt (by omega) (by omega))
    · refine lv_aload_n S.1 S.2.1 dX2_copyEntry_33 rfl (lv_at hl 1 rfl) ?_
      refine cv_gf (ci := 2) (C := RX2) (T := TX2) (N := 4) (v := .ref (E.2.1 (v + 22))) S K h (v + 13) (cv_kdV v hv).2.1 hinX2 (cv_fsL hv) rfl 2 (by decide) hf_21 rfl rfl dX2_copyEntry_34 ?_
      refine lv_iload_n S.1 S.2.1 dX2_copyEntry_37 rfl (lv_at hl 4 rfl) ?_
      refine cv_aald S K h v hv ti rfl hti dX2_copyEntry_38 ?_
      refine lv_iload S.1 S.2.1 dX2_copyEntry_39 (lv_at hl 0 rfl) ?_
      refine lv_aload_n S.1 S.2.1 dX2_copyEntry_41 rfl (lv_at hl 2 rfl) ?_
      refine cv_gf (ci := 2) (C := RX2) (T := TX2) (N := 4) (v := .ref (E.2.1 (w + 22))) S K h (w + 13) (cv_kdV w hw).2.1 hinX2 (cv_fsL hw) rfl 2 (by decide) hf_21 rfl rfl dX2_copyEntry_42 ?_
      refine lv_iload_n S.1 S.2.1 dX2_copyEntry_45 rfl (lv_at hl 3 rfl) ?_
      refine cv_aald S K h w hw fi rfl hfi dX2_copyEntry_46 ?_
      refine lv_iload S.1 S.2.1 dX2_copyEntry_47 (lv_at hl 0 rfl) ?_
      refine cv_lald S K h (8 * w + fi + 25) (cv_kdR w hw fi hfi).1 (cv_kdR w hw fi hfi).2 i rfl hi dX2_copyEntry_49 ?_
      refine lv_topl (fun vx evx => ?_)
      refine cv_last (x := vx) S K h (8 * v + ti + 25) (cv_kdR v hv ti hti).1 (cv_kdR v hv ti hti).2 i rfl hi dX2_copyEntry_50 (fun σ4 H locs eσ4 h => ?_)
      obtain ⟨z5, ez5⟩ : ∃ y : Int32, y = ((nI i)) + 1 := ⟨_, rfl⟩
      refine lv_iinc (v := z5) (lv' := [(4, .int z5), (0, .ref (E.2.1 (v + 13))), (1, .ref (E.2.1 (w + 13))), (2, .int (nI fi)), (3, .int (nI ti))]) S.1 S.2.1 dX2_copyEntry_51 hl (k := 0) rfl (by rw [ez5]; rfl) (by decide) rfl (fun ls hl => ?_)
      refine lv_goto (tgt := 27) S.1 S.2.1 dX2_copyEntry_54 (by decide) ?_
      rw [ez5, nI_1] at hl
      refine ih () σ4 H locs ls ?_ h hl
      have r3 : ∀ q, σ4.2.1 q = if q = 8 * v + ti + 25 then vp_updL (τ.2.1 (8 * v + ti + 25)) i vx else τ.2.1 q := fun q => by rw [eσ4]; rfl
      have hvx : vx = σ.2.1 (8 * w + fi + 25) i := by
        rw [evx]
        by_cases hq : 8 * w + fi + 25 = 8 * v + ti + 25
        · rw [hq]; exact g5 i (Nat.le_refl i)
        · rw [g6 _ (by omega) hq]
      refine ⟨by rw [eσ4]; exact g1, by rw [eσ4]; exact g2, by rw [r3, if_neg (by omega)]; exact g3, fun k hk => ?_, fun k hk => ?_, fun q h1 h2 => by rw [r3, if_neg h2]; exact g6 q h1 h2⟩
      · rw [r3, if_pos rfl]
        by_cases hki : k = i
        · rw [hki, pk_uLs]; exact hvx
        · rw [pk_uLn hki]; exact g4 k (by omega)
      · rw [r3, if_pos rfl, pk_uLn (by omega)]; exact g5 k (by omega)
  · intro a τ H locs ls hI h hl
    have hl : lv_has ls 5 [(4, .int (nI 3)), (0, .ref (E.2.1 (v + 13))), (1, .ref (E.2.1 (w + 13))), (2, .int (nI fi)), (3, .int (nI ti))] := hl
    obtain ⟨g1, g2, g3, g4, g5, g6⟩ := hI
    refine lv_iload S.1 S.2.1 dX2_copyEntry_27 (lv_at hl 0 rfl) ?_
    refine lv_iconst (v := 2) S.1 S.2.1 dX2_copyEntry_29 (by decide) ?_
    refine lv_icmp_gt (tgt := 57) S.1 S.2.1 dX2_copyEntry_30 (by decide) (fun c1 => ?_) (fun c1 => ?_)
    · refine cv_vret S hr hlk hsz h ?_ dX2_copyEntry_57
      refine ⟨⟨by rw [g3, pk_uLs], by rw [g1, va_up_self, pk_us], fun k hk => g4 k hk⟩, fun q hq hqj => ⟨by rw [g3, pk_uLn hqj], by rw [g1, va_up_self, pk_un hqj], fun k _ => by rw [g6 _ (by omega) (by omega)]⟩, ⟨fun k hk => by rw [g1, va_up_ne _ _ hk], fun k h1 h2 => g6 k h1 (h2 ti hti), fun k i _ => by rw [g2], by rw [g2]⟩, g2⟩
    · exact absurd (show (2 : Int32) < nI 3 from by decide) c1
