/-! 32: the reference: intAt, longAt, lengthInFile, isSealed, isContent -/
set_option maxHeartbeats 4000000 in
set_option maxRecDepth 100000 in
theorem m_intAt (l : Launch) (E : cv_E) (σ : cv_S) (bv : Nat → Nat) (m_ : Nat) (hm : m_ ≤ 300) (hbv : by_R (σ.1 58) bv m_) (a : Nat) (ha : a + 4 ≤ m_) : cv_Mi l E yX6_intAt wsX6_intAt (cv_R 1) [.ref (E.2.1 49), .int (nI a)] σ (fun r τ => r = nI (nv bv a 4) ∧ τ = σ) := by
  intro sz
  refine cv_in (ws := wsX6_intAt) (cc := cX6_intAt) (maxL := 2) (ret := (some .int)) (own := RX6) rfl (by decide) rfl (Nat.le_of_ble_eq_true rfl) ?_
  intro p e s m below meth c S K hr hlk hsz h ls hl
  have hl : lv_has ls 2 [(0, .ref (E.2.1 49)), (1, .int (nI a))] := hl
  have hinX6 : ∀ w ∈ u_ws RX6 TX6 18, w ∈ wsX6_intAt := by decide +kernel
  have hf_35 := S.2.2.2.2 (.fieldLink RX6 35 "CrashVaultModel" "file" "[I") (by decide +kernel)
  refine lv_aload_n S.1 S.2.1 dX6_intAt_0 rfl (lv_at hl 0 rfl) ?_
  refine cv_gf (ci := 6) (C := RX6) (T := TX6) (N := 18) (v := .ref (E.2.1 58)) S K h 49 rfl hinX6 rfl rfl 16 (by decide) hf_35 rfl rfl dX6_intAt_1 ?_
  refine lv_iload_n S.1 S.2.1 dX6_intAt_4 rfl (lv_at hl 1 rfl) ?_
  refine cv_iald S K h 58 rfl (n := 300) rfl a rfl (by omega) dX6_intAt_5 ?_
  refine lv_aload_n S.1 S.2.1 dX6_intAt_6 rfl (lv_at hl 0 rfl) ?_
  refine cv_gf (ci := 6) (C := RX6) (T := TX6) (N := 18) (v := .ref (E.2.1 58)) S K h 49 rfl hinX6 rfl rfl 16 (by decide) hf_35 rfl rfl dX6_intAt_7 ?_
  refine lv_iload_n S.1 S.2.1 dX6_intAt_10 rfl (lv_at hl 1 rfl) ?_
  refine lv_iconst (v := 1) S.1 S.2.1 dX6_intAt_11 (by decide) ?_
  refine lv_iadd S.1 S.2.1 dX6_intAt_12 ?_
  refine cv_iald S K h 58 rfl (n := 300) rfl (a + 1) (nI_add a 1) (by omega) dX6_intAt_13 ?_
  refine lv_bipush (v := 8) S.1 S.2.1 dX6_intAt_14 (by decide) ?_
  refine lv_ishl S.1 S.2.1 dX6_intAt_16 ?_
  refine lv_ior S.1 S.2.1 dX6_intAt_17 ?_
  refine lv_aload_n S.1 S.2.1 dX6_intAt_18 rfl (lv_at hl 0 rfl) ?_
  refine cv_gf (ci := 6) (C := RX6) (T := TX6) (N := 18) (v := .ref (E.2.1 58)) S K h 49 rfl hinX6 rfl rfl 16 (by decide) hf_35 rfl rfl dX6_intAt_19 ?_
  refine lv_iload_n S.1 S.2.1 dX6_intAt_22 rfl (lv_at hl 1 rfl) ?_
  refine lv_iconst (v := 2) S.1 S.2.1 dX6_intAt_23 (by decide) ?_
  refine lv_iadd S.1 S.2.1 dX6_intAt_24 ?_
  refine cv_iald S K h 58 rfl (n := 300) rfl (a + 2) (nI_add a 2) (by omega) dX6_intAt_25 ?_
  refine lv_bipush (v := 16) S.1 S.2.1 dX6_intAt_26 (by decide) ?_
  refine lv_ishl S.1 S.2.1 dX6_intAt_28 ?_
  refine lv_ior S.1 S.2.1 dX6_intAt_29 ?_
  refine lv_aload_n S.1 S.2.1 dX6_intAt_30 rfl (lv_at hl 0 rfl) ?_
  refine cv_gf (ci := 6) (C := RX6) (T := TX6) (N := 18) (v := .ref (E.2.1 58)) S K h 49 rfl hinX6 rfl rfl 16 (by decide) hf_35 rfl rfl dX6_intAt_31 ?_
  refine lv_iload_n S.1 S.2.1 dX6_intAt_34 rfl (lv_at hl 1 rfl) ?_
  refine lv_iconst (v := 3) S.1 S.2.1 dX6_intAt_35 (by decide) ?_
  refine lv_iadd S.1 S.2.1 dX6_intAt_36 ?_
  refine cv_iald S K h 58 rfl (n := 300) rfl (a + 3) (nI_add a 3) (by omega) dX6_intAt_37 ?_
  refine lv_bipush (v := 24) S.1 S.2.1 dX6_intAt_38 (by decide) ?_
  refine lv_ishl S.1 S.2.1 dX6_intAt_40 ?_
  refine lv_ior S.1 S.2.1 dX6_intAt_41 ?_
  exact cv_iret S hr hlk hsz h ⟨four_nv hbv ha, rfl⟩ dX6_intAt_42

set_option maxHeartbeats 4000000 in
set_option maxRecDepth 100000 in
theorem m_longAt (l : Launch) (E : cv_E) (σ : cv_S) (bv : Nat → Nat) (m_ : Nat) (hm : m_ ≤ 300) (hbv : by_R (σ.1 58) bv m_) (a : Nat) (ha : a + 8 ≤ m_) : cv_Ml l E yX6_longAt wsX6_longAt (cv_R 2) [.ref (E.2.1 49), .int (nI a)] σ (fun r τ => r = lN (nv bv a 8) ∧ τ = σ) := by
  intro sz
  refine cv_in (ws := wsX6_longAt) (cc := cX6_longAt) (maxL := 2) (ret := (some .long)) (own := RX6) rfl (by decide) rfl (Nat.le_of_ble_eq_true rfl) ?_
  intro p e s m below meth c S K hr hlk hsz h ls hl
  have hl : lv_has ls 2 [(0, .ref (E.2.1 49)), (1, .int (nI a))] := hl
  refine lv_aload_n S.1 S.2.1 dX6_longAt_0 rfl (lv_at hl 0 rfl) ?_
  refine lv_iload_n S.1 S.2.1 dX6_longAt_1 rfl (lv_at hl 1 rfl) ?_
  refine lv_iconst (v := 4) S.1 S.2.1 dX6_longAt_2 (by decide) ?_
  refine lv_iadd S.1 S.2.1 dX6_longAt_3 ?_
  refine cv_rei (show (((nI a)) + 4) = nI (a + 4) from nI_add a 4) ?_
  refine cv_calli (ci := 6) (C := RX6) (T := TX6) (N := 18) S K h hl.1 rfl rfl rfl (m_intAt l E σ bv m_ hm hbv (a + 4) (by omega)) (cwV 1 S.2.2.2.2 gX6_longAt_X6_intAt rfl rfl rfl (by decide +kernel) ⟨Nat.le_of_ble_eq_true rfl, Nat.le_of_ble_eq_true rfl⟩) rfl rfl (Nat.le_of_ble_eq_true rfl) ⟨Nat.zero_le _, Nat.zero_le _⟩ dX6_longAt_4 (fun r1 σ14 H locs ⟨h1, hs9⟩ h => ?_)
  rw [hs9] at h
  refine lv_i2l (v := (r1 : Int32).toInt64) S.1 S.2.1 dX6_longAt_7 rfl ?_
  refine lv_bipush (v := 32) S.1 S.2.1 dX6_longAt_8 (by decide) ?_
  refine lv_lshl (v := (((r1 : Int32).toInt64)) <<< ((32 : Int32).toInt64 &&& 63)) S.1 S.2.1 dX6_longAt_10 rfl ?_
  refine lv_aload_n S.1 S.2.1 dX6_longAt_11 rfl (lv_at hl 0 rfl) ?_
  refine lv_iload_n S.1 S.2.1 dX6_longAt_12 rfl (lv_at hl 1 rfl) ?_
  refine cv_calli (ci := 6) (C := RX6) (T := TX6) (N := 18) S K h hl.1 rfl rfl rfl (m_intAt l E σ bv m_ hm hbv a (by omega)) (cwV 1 S.2.2.2.2 gX6_longAt_X6_intAt rfl rfl rfl (by decide +kernel) ⟨Nat.le_of_ble_eq_true rfl, Nat.le_of_ble_eq_true rfl⟩) rfl rfl (Nat.le_of_ble_eq_true rfl) ⟨Nat.zero_le _, Nat.zero_le _⟩ dX6_longAt_13 (fun r2 σ15 H locs ⟨h2, hs9⟩ h => ?_)
  rw [hs9] at h
  refine lv_i2l (v := (r2 : Int32).toInt64) S.1 S.2.1 dX6_longAt_16 rfl ?_
  refine lv_ldc2 (v := 4294967295) S.1 S.2.1 S.2.2.2.1 (S.2.2.2.2 (.constantLong RX6 113 (4294967295)) (by decide +kernel)) dX6_longAt_17 ?_
  refine lv_land S.1 S.2.1 dX6_longAt_20 ?_
  refine lv_lor S.1 S.2.1 dX6_longAt_21 ?_
  refine cv_lret S hr hlk hsz h ⟨?_, rfl⟩ dX6_longAt_22
  have b1 := nv_lt (bv := bv) (a := a + 4) (m := m_) 4 (fun j hj => (hbv _ (by omega)).2)
  have b0 := nv_lt (bv := bv) (a := a) (m := m_) 4 (fun j hj => (hbv _ (by omega)).2)
  rw [two_nat, h1, h2, pk_tn b1, pk_tn b0, show nv bv a 8 = nv bv a (4 + 4) from rfl, nv_add bv a 4 4]
  congr 1
  omega

set_option maxHeartbeats 4000000 in
set_option maxRecDepth 100000 in
theorem m_lengthInFile (l : Launch) (E : cv_E) (σ : cv_S) (bv : Nat → Nat) (hbv : by_R (σ.1 58) bv 300) : cv_Mi l E yX6_lengthInFile wsX6_lengthInFile (cv_R 1) [.ref (E.2.1 49)] σ (fun r τ => r = nI (nv bv 11 2) ∧ τ = σ) := by
  intro sz
  refine cv_in (ws := wsX6_lengthInFile) (cc := cX6_lengthInFile) (maxL := 1) (ret := (some .int)) (own := RX6) rfl (by decide) rfl (Nat.le_of_ble_eq_true rfl) ?_
  intro p e s m below meth c S K hr hlk hsz h ls hl
  have hl : lv_has ls 1 [(0, .ref (E.2.1 49))] := hl
  have hinX6 : ∀ w ∈ u_ws RX6 TX6 18, w ∈ wsX6_lengthInFile := by decide +kernel
  have hf_35 := S.2.2.2.2 (.fieldLink RX6 35 "CrashVaultModel" "file" "[I") (by decide +kernel)
  refine lv_aload_n S.1 S.2.1 dX6_lengthInFile_0 rfl (lv_at hl 0 rfl) ?_
  refine cv_gf (ci := 6) (C := RX6) (T := TX6) (N := 18) (v := .ref (E.2.1 58)) S K h 49 rfl hinX6 rfl rfl 16 (by decide) hf_35 rfl rfl dX6_lengthInFile_1 ?_
  refine lv_bipush (v := 11) S.1 S.2.1 dX6_lengthInFile_4 (by decide) ?_
  refine cv_iald S K h 58 rfl (n := 300) rfl 11 rfl (by decide) dX6_lengthInFile_6 ?_
  refine lv_aload_n S.1 S.2.1 dX6_lengthInFile_7 rfl (lv_at hl 0 rfl) ?_
  refine cv_gf (ci := 6) (C := RX6) (T := TX6) (N := 18) (v := .ref (E.2.1 58)) S K h 49 rfl hinX6 rfl rfl 16 (by decide) hf_35 rfl rfl dX6_lengthInFile_8 ?_
  refine lv_bipush (v := 12) S.1 S.2.1 dX6_lengthInFile_11 (by decide) ?_
  refine cv_iald S K h 58 rfl (n := 300) rfl 12 rfl (by decide) dX6_lengthInFile_13 ?_
  refine lv_bipush (v := 8) S.1 S.2.1 dX6_lengthInFile_14 (by decide) ?_
  refine lv_ishl S.1 S.2.1 dX6_lengthInFile_16 ?_
  refine lv_ior S.1 S.2.1 dX6_lengthInFile_17 ?_
  exact cv_iret S hr hlk hsz h ⟨two_nv hbv (by decide), rfl⟩ dX6_lengthInFile_18

set_option maxHeartbeats 4000000 in
set_option maxRecDepth 100000 in
theorem m_isSealed (l : Launch) (E : cv_E) (σ : cv_S) (bv : Nat → Nat) (hbv : by_R (σ.1 58) bv 300) (n : Nat) (hn : n + 8 ≤ 300) (z : Int32) : cv_Mi l E yX6_isSealed wsX6_isSealed (cv_R 6) [.ref (E.2.1 49), .int (nI n), .int z] σ (fun r τ => cv_fr [54, 55, 56] σ τ ∧ ((r = 1 ∧ lN (nv bv n 8) = pu_sl (σ.1 57) (σ.1 58) n z) ∨ (r = 0 ∧ ¬ lN (nv bv n 8) = pu_sl (σ.1 57) (σ.1 58) n z))) := by
  intro sz
  refine cv_in (ws := wsX6_isSealed) (cc := cX6_isSealed) (maxL := 5) (ret := (some .boolean)) (own := RX6) rfl (by decide) rfl (Nat.le_of_ble_eq_true rfl) ?_
  intro p e s m below meth c S K hr hlk hsz h ls hl
  have hl : lv_has ls 5 [(0, .ref (E.2.1 49)), (1, .int (nI n)), (2, .int z)] := hl
  have hinX6 : ∀ w ∈ u_ws RX6 TX6 18, w ∈ wsX6_isSealed := by decide +kernel
  have hf_29 := S.2.2.2.2 (.fieldLink RX6 29 "CrashVaultModel" "key" "[I") (by decide +kernel)
  refine lv_aload_n S.1 S.2.1 dX6_isSealed_0 rfl (lv_at hl 0 rfl) ?_
  refine lv_iload_n S.1 S.2.1 dX6_isSealed_1 rfl (lv_at hl 1 rfl) ?_
  refine cv_calli (ci := 6) (C := RX6) (T := TX6) (N := 18) S K h hl.1 rfl rfl rfl (m_intAt l E σ bv 300 (Nat.le_refl _) hbv n (by omega)) (cwV 1 S.2.2.2.2 gX6_isSealed_X6_intAt rfl rfl rfl (by decide +kernel) ⟨Nat.le_of_ble_eq_true rfl, Nat.le_of_ble_eq_true rfl⟩) rfl rfl (Nat.le_of_ble_eq_true rfl) ⟨Nat.zero_le _, Nat.zero_le _⟩ dX6_isSealed_2 (fun r1 σ16 H locs ⟨h1, hs9⟩ h => ?_)
  rw [hs9] at h
  subst h1
  refine lv_istore_n (lv' := [(3, .int (nI (nv bv n 4))), (0, .ref (E.2.1 49)), (1, .int (nI n)), (2, .int z)]) S.1 S.2.1 dX6_isSealed_5 rfl hl (by decide) rfl (fun ls hl => ?_)
  refine lv_aload_n S.1 S.2.1 dX6_isSealed_6 rfl (lv_at hl 1 rfl) ?_
  refine lv_iload_n S.1 S.2.1 dX6_isSealed_7 rfl (lv_at hl 2 rfl) ?_
  refine lv_iconst (v := 4) S.1 S.2.1 dX6_isSealed_8 (by decide) ?_
  refine lv_iadd S.1 S.2.1 dX6_isSealed_9 ?_
  refine cv_rei (show (((nI n)) + 4) = nI (n + 4) from nI_add n 4) ?_
  refine cv_calli (ci := 6) (C := RX6) (T := TX6) (N := 18) S K h hl.1 rfl rfl rfl (m_intAt l E σ bv 300 (Nat.le_refl _) hbv (n + 4) (by omega)) (cwV 1 S.2.2.2.2 gX6_isSealed_X6_intAt rfl rfl rfl (by decide +kernel) ⟨Nat.le_of_ble_eq_true rfl, Nat.le_of_ble_eq_true rfl⟩) rfl rfl (Nat.le_of_ble_eq_true rfl) ⟨Nat.zero_le _, Nat.zero_le _⟩ dX6_isSealed_10 (fun r2 σ17 H locs ⟨h2, hs9⟩ h => ?_)
  rw [hs9] at h
  subst h2
  refine lv_istore (lv' := [(4, .int (nI (nv bv (n + 4) 4))), (3, .int (nI (nv bv n 4))), (0, .ref (E.2.1 49)), (1, .int (nI n)), (2, .int z)]) S.1 S.2.1 dX6_isSealed_13 hl (by decide) rfl (fun ls hl => ?_)
  refine lv_aload_n S.1 S.2.1 dX6_isSealed_15 rfl (lv_at hl 2 rfl) ?_
  refine lv_iload_n S.1 S.2.1 dX6_isSealed_16 rfl (lv_at hl 3 rfl) ?_
  refine lv_iload_n S.1 S.2.1 dX6_isSealed_17 rfl (lv_at hl 4 rfl) ?_
  refine cv_callv (ci := 6) (C := RX6) (T := TX6) (N := 18) S K h hl.1 rfl rfl rfl (m_seal l E σ bv n (by omega) (fun j hj => hbv j (by omega)) z) (cwV 2 S.2.2.2.2 gX6_isSealed_X6_seal rfl rfl rfl (by decide +kernel) ⟨Nat.le_of_ble_eq_true rfl, Nat.le_of_ble_eq_true rfl⟩) rfl rfl (Nat.le_of_ble_eq_true rfl) ⟨Nat.zero_le _, Nat.zero_le _⟩ dX6_isSealed_18 (fun σ18 H locs hs h => ?_)
  have hiff := seal_iff (bv := bv) (a := n) (m := 300) (fun j hj => (hbv j hj).2) hn (pu_seal (σ.1 57) (σ.1 58) n z 0) (pu_seal (σ.1 57) (σ.1 58) n z 1)
  have k0 := hs.2 0 (by decide)
  have k1 := hs.2 1 (by decide)
  refine lv_aload_n S.1 S.2.1 dX6_isSealed_21 rfl (lv_at hl 2 rfl) ?_
  refine cv_gf (ci := 6) (C := RX6) (T := TX6) (N := 18) (v := .ref (E.2.1 56)) S K h 49 rfl hinX6 rfl rfl 14 (by decide) hf_29 rfl rfl dX6_isSealed_22 ?_
  refine lv_iconst (v := 0) S.1 S.2.1 dX6_isSealed_25 (by decide) ?_
  refine cv_iald S K h 56 rfl (n := 4) rfl 0 rfl (by decide) dX6_isSealed_26 ?_
  refine lv_iload_n S.1 S.2.1 dX6_isSealed_27 rfl (lv_at hl 1 rfl) ?_
  refine lv_icmp_ne (tgt := 46) S.1 S.2.1 dX6_isSealed_28 (by decide) (fun c1 => ?_) (fun c1 => ?_)
  · refine lv_iconst (v := 0) S.1 S.2.1 dX6_isSealed_46 (by decide) ?_
    exact cv_zret S hr (Or.inl rfl) hlk hsz h ⟨hs.1, Or.inr ⟨rfl, fun q => c1 (by rw [k0]; exact (hiff.mp q).1)⟩⟩ dX6_isSealed_47
  · refine lv_aload_n S.1 S.2.1 dX6_isSealed_31 rfl (lv_at hl 2 rfl) ?_
    refine cv_gf (ci := 6) (C := RX6) (T := TX6) (N := 18) (v := .ref (E.2.1 56)) S K h 49 rfl hinX6 rfl rfl 14 (by decide) hf_29 rfl rfl dX6_isSealed_32 ?_
    refine lv_iconst (v := 1) S.1 S.2.1 dX6_isSealed_35 (by decide) ?_
    refine cv_iald S K h 56 rfl (n := 4) rfl 1 rfl (by decide) dX6_isSealed_36 ?_
    refine lv_iload S.1 S.2.1 dX6_isSealed_37 (lv_at hl 0 rfl) ?_
    refine lv_icmp_ne (tgt := 46) S.1 S.2.1 dX6_isSealed_39 (by decide) (fun c2 => ?_) (fun c2 => ?_)
    · refine lv_iconst (v := 0) S.1 S.2.1 dX6_isSealed_46 (by decide) ?_
      exact cv_zret S hr (Or.inl rfl) hlk hsz h ⟨hs.1, Or.inr ⟨rfl, fun q => c2 (by rw [k1]; exact (hiff.mp q).2)⟩⟩ dX6_isSealed_47
    · refine lv_iconst (v := 1) S.1 S.2.1 dX6_isSealed_42 (by decide) ?_
      refine lv_goto (tgt := 47) S.1 S.2.1 dX6_isSealed_43 (by decide) ?_
      exact cv_zret S hr (Or.inr rfl) hlk hsz h ⟨hs.1, Or.inl ⟨rfl, hiff.mpr ⟨by rw [← k0]; exact c1, by rw [← k1]; exact c2⟩⟩⟩ dX6_isSealed_47

set_option maxHeartbeats 4000000 in
set_option maxRecDepth 100000 in
theorem m_isContent (l : Launch) (E : cv_E) (σ : cv_S) (bv : Nat → Nat) (hbv : by_R (σ.1 58) bv 300) (n : Nat) (hn : 21 + n ≤ 300) : cv_Mi l E yX6_isContent wsX6_isContent (cv_R 3) [.ref (E.2.1 49), .int (nI n)] σ (fun r τ => τ = σ ∧ ((r = 1 ∧ pg bv (21 + n)) ∨ (r = 0 ∧ ¬ pg bv (21 + n)))) := by
  intro sz
  refine cv_in (ws := wsX6_isContent) (cc := cX6_isContent) (maxL := 7) (ret := (some .boolean)) (own := RX6) rfl (by decide) rfl (Nat.le_of_ble_eq_true rfl) ?_
  intro p e s m below meth c S K hr hlk hsz h ls hl
  have hl : lv_has ls 7 [(0, .ref (E.2.1 49)), (1, .int (nI n))] := hl
  have hinX6 : ∀ w ∈ u_ws RX6 TX6 18, w ∈ wsX6_isContent := by decide +kernel
  have hf_35 := S.2.2.2.2 (.fieldLink RX6 35 "CrashVaultModel" "file" "[I") (by decide +kernel)
  obtain ⟨hb21, hb256⟩ := hbv 21 (by decide)
  refine lv_bipush (v := 22) S.1 S.2.1 dX6_isContent_0 (by decide) ?_
  refine lv_istore_n (lv' := [(2, .int 22), (0, .ref (E.2.1 49)), (1, .int (nI n))]) S.1 S.2.1 dX6_isContent_2 rfl hl (by decide) rfl (fun ls hl => ?_)
  refine lv_lconst (v := 0) S.1 S.2.1 dX6_isContent_3 (by decide) ?_
  refine lv_lstore_n (lv' := [(3, .long 0), (2, .int 22), (0, .ref (E.2.1 49)), (1, .int (nI n))]) S.1 S.2.1 dX6_isContent_4 rfl hl (by decide) rfl (fun ls hl => ?_)
  refine lv_iload_n S.1 S.2.1 dX6_isContent_5 rfl (lv_at hl 3 rfl) ?_
  refine lv_if_le (tgt := 25) S.1 S.2.1 dX6_isContent_6 (by decide) (fun c1 => ?_) (fun c1 => ?_)
  · refine lv_iconst (v := 0) S.1 S.2.1 dX6_isContent_25 (by decide) ?_
    refine lv_istore (lv' := [(5, .int 0), (3, .long 0), (2, .int 22), (0, .ref (E.2.1 49)), (1, .int (nI n))]) S.1 S.2.1 dX6_isContent_26 hl (by decide) rfl (fun ls hl => ?_)
    refine lv_iconst (v := 0) S.1 S.2.1 dX6_isContent_28 (by decide) ?_
    refine lv_istore (lv' := [(6, .int 0), (5, .int 0), (3, .long 0), (2, .int 22), (0, .ref (E.2.1 49)), (1, .int (nI n))]) S.1 S.2.1 dX6_isContent_29 hl (by decide) rfl (fun ls hl => ?_)
    refine lv_iload S.1 S.2.1 dX6_isContent_31 (lv_at hl 1 rfl) ?_
    refine lv_if_eq (tgt := 152) S.1 S.2.1 dX6_isContent_33 (by decide) (fun cz => ?_) (fun cz => ?_)
    · refine lv_iload S.1 S.2.1 dX6_isContent_152 (lv_at hl 1 rfl) ?_
      refine lv_if_eq (tgt := 169) S.1 S.2.1 dX6_isContent_154 (by decide) (fun cy => ?_) (fun cy => ?_)
      · refine lv_iconst (v := 0) S.1 S.2.1 dX6_isContent_169 (by decide) ?_
        exact cv_zret S hr (Or.inl rfl) hlk hsz h ⟨rfl, Or.inr ⟨rfl, fun q => absurd ((nI_leI (b := 0) (by omega) (by decide)).mp c1) (by have := q.1; omega)⟩⟩ dX6_isContent_170
      · exact absurd rfl cy
    · exact absurd rfl cz
  · have hn0 : 0 < n := Nat.pos_of_ne_zero (fun q => c1 (by rw [q]; decide))
    refine lv_aload_n S.1 S.2.1 dX6_isContent_9 rfl (lv_at hl 2 rfl) ?_
    refine cv_gf (ci := 6) (C := RX6) (T := TX6) (N := 18) (v := .ref (E.2.1 58)) S K h 49 rfl hinX6 rfl rfl 16 (by decide) hf_35 rfl rfl dX6_isContent_10 ?_
    refine lv_bipush (v := 21) S.1 S.2.1 dX6_isContent_13 (by decide) ?_
    refine cv_iald S K h 58 rfl (n := 300) rfl 21 rfl (by decide) dX6_isContent_15 ?_
    refine cv_rei (show (σ.1 58 21) = nI (bv 21) from hb21) ?_
    refine lv_bipush (v := 8) S.1 S.2.1 dX6_isContent_16 (by decide) ?_
    refine lv_icmp_gt (tgt := 25) S.1 S.2.1 dX6_isContent_18 (by decide) (fun c2 => ?_) (fun c2 => ?_)
    · refine lv_iconst (v := 0) S.1 S.2.1 dX6_isContent_25 (by decide) ?_
      refine lv_istore (lv' := [(5, .int 0), (3, .long 0), (2, .int 22), (0, .ref (E.2.1 49)), (1, .int (nI n))]) S.1 S.2.1 dX6_isContent_26 hl (by decide) rfl (fun ls hl => ?_)
      refine lv_iconst (v := 0) S.1 S.2.1 dX6_isContent_28 (by decide) ?_
      refine lv_istore (lv' := [(6, .int 0), (5, .int 0), (3, .long 0), (2, .int 22), (0, .ref (E.2.1 49)), (1, .int (nI n))]) S.1 S.2.1 dX6_isContent_29 hl (by decide) rfl (fun ls hl => ?_)
      refine lv_iload S.1 S.2.1 dX6_isContent_31 (lv_at hl 1 rfl) ?_
      refine lv_if_eq (tgt := 152) S.1 S.2.1 dX6_isContent_33 (by decide) (fun cz => ?_) (fun cz => ?_)
      · refine lv_iload S.1 S.2.1 dX6_isContent_152 (lv_at hl 1 rfl) ?_
        refine lv_if_eq (tgt := 169) S.1 S.2.1 dX6_isContent_154 (by decide) (fun cy => ?_) (fun cy => ?_)
        · refine lv_iconst (v := 0) S.1 S.2.1 dX6_isContent_169 (by decide) ?_
          exact cv_zret S hr (Or.inl rfl) hlk hsz h ⟨rfl, Or.inr ⟨rfl, fun q => absurd c2 (nI_nlt (a := 8) q.2.1 (by decide))⟩⟩ dX6_isContent_170
        · exact absurd rfl cy
      · exact absurd rfl cz
    · have h8 : bv 21 ≤ 8 := Nat.not_lt.mp (fun q => c2 (nI_lt (a := 8) q (by omega)))
      refine lv_iconst (v := 1) S.1 S.2.1 dX6_isContent_21 (by decide) ?_
      refine lv_goto (tgt := 26) S.1 S.2.1 dX6_isContent_22 (by decide) ?_
      refine lv_istore (lv' := [(5, .int 1), (3, .long 0), (2, .int 22), (0, .ref (E.2.1 49)), (1, .int (nI n))]) S.1 S.2.1 dX6_isContent_26 hl (by decide) rfl (fun ls hl => ?_)
      refine lv_iconst (v := 0) S.1 S.2.1 dX6_isContent_28 (by decide) ?_
      refine lv_istore (lv' := [(6, .int 0), (5, .int 1), (3, .long 0), (2, .int 22), (0, .ref (E.2.1 49)), (1, .int (nI n))]) S.1 S.2.1 dX6_isContent_29 hl (by decide) rfl (fun ls hl => ?_)
      refine cv_loop (α := Unit) (nL := 7) (bv 21) (fun i a τ => τ = σ ∧ ps bv i ≤ 316 ∧ ∀ j, j < i → p1 bv (21 + n) j) (fun i a => [(6, .int (nI i)), (5, .int 1), (3, .long (if i = 0 then 0 else pN bv (i - 1))), (2, .int (nI (ps bv i))), (0, .ref (E.2.1 49)), (1, .int (nI n))]) ?_ ?_ 0 () σ _ _ _ (by omega) (⟨rfl, (show 22 ≤ 316 by decide), fun j hj => absurd hj (Nat.not_lt_zero j)⟩) h hl
      · intro i a τ H locs ls hi hI h hl ih
        have hl : lv_has ls 7 [(6, .int (nI i)), (5, .int 1), (3, .long (if i = 0 then 0 else pN bv (i - 1))), (2, .int (nI (ps bv i))), (0, .ref (E.2.1 49)), (1, .int (nI n))] := hl
        obtain ⟨g1, g2, g3⟩ := hI
        rw [g1] at h
        refine lv_iload S.1 S.2.1 dX6_isContent_31 (lv_at hl 1 rfl) ?_
        refine lv_if_eq (tgt := 152) S.1 S.2.1 dX6_isContent_33 (by decide) (fun c3 => ?_) (fun c3 => ?_)
        · exact absurd c3 (by decide)
        · refine lv_iload S.1 S.2.1 dX6_isContent_36 (lv_at hl 0 rfl) ?_
          refine lv_aload_n S.1 S.2.1 dX6_isContent_38 rfl (lv_at hl 4 rfl) ?_
          refine cv_gf (ci := 6) (C := RX6) (T := TX6) (N := 18) (v := .ref (E.2.1 58)) S K h 49 rfl hinX6 rfl rfl 16 (by decide) hf_35 rfl rfl dX6_isContent_39 ?_
          refine lv_bipush (v := 21) S.1 S.2.1 dX6_isContent_42 (by decide) ?_
          refine cv_iald S K h 58 rfl (n := 300) rfl 21 rfl (by decide) dX6_isContent_44 ?_
          refine cv_rei (show (σ.1 58 21) = nI (bv 21) from hb21) ?_
          refine lv_icmp_ge (tgt := 152) S.1 S.2.1 dX6_isContent_45 (by decide) (fun c4 => ?_) (fun c4 => ?_)
          · exact absurd c4 (nI_ge hi (by omega))
          · have keyF : ∀ (H : Heap) (locs : List Loc) (ls : Array Slot), ¬ p1 bv (21 + n) i → cv_H E σ s H locs → lv_has ls 7 [(6, .int (nI i)), (5, .int 1), (3, .long (if i = 0 then 0 else pN bv (i - 1))), (2, .int (nI (ps bv i))), (0, .ref (E.2.1 49)), (1, .int (nI n))] → W p l e (cv_R 3) s m ([.ref (E.2.1 49), .int (nI n)] : List Value).toArray below meth c H locs 0 0 (MQ below (va_Qi (fun r τ => τ = σ ∧ ((r = 1 ∧ pg bv (21 + n)) ∨ (r = 0 ∧ ¬ pg bv (21 + n)))) (cv_B E) (cv_A E sz)) ([.ref (E.2.1 49), .int (nI n)] : List Value).toArray s 0 0 (cv_A E sz)) (F0 m 101 ls []) := by
              intro H locs ls hng h hl
              refine lv_iconst (v := 0) S.1 S.2.1 dX6_isContent_101 (by decide) ?_
              refine lv_istore (lv' := [(5, .int 0), (6, .int (nI i)), (3, .long (if i = 0 then 0 else pN bv (i - 1))), (2, .int (nI (ps bv i))), (0, .ref (E.2.1 49)), (1, .int (nI n))]) S.1 S.2.1 dX6_isContent_102 hl (by decide) rfl (fun ls hl => ?_)
              refine lv_iload S.1 S.2.1 dX6_isContent_104 (lv_at hl 0 rfl) ?_
              refine lv_if_eq (tgt := 117) S.1 S.2.1 dX6_isContent_106 (by decide) (fun c5 => ?_) (fun c5 => ?_)
              · refine lv_lconst (v := 0) S.1 S.2.1 dX6_isContent_117 (by decide) ?_
                refine lv_lstore_n (lv' := [(3, .long 0), (5, .int 0), (6, .int (nI i)), (2, .int (nI (ps bv i))), (0, .ref (E.2.1 49)), (1, .int (nI n))]) S.1 S.2.1 dX6_isContent_118 rfl hl (by decide) rfl (fun ls hl => ?_)
                refine lv_iload S.1 S.2.1 dX6_isContent_119 (lv_at hl 1 rfl) ?_
                refine lv_if_eq (tgt := 144) S.1 S.2.1 dX6_isContent_121 (by decide) (fun c6 => ?_) (fun c6 => ?_)
                · refine lv_iload_n S.1 S.2.1 dX6_isContent_144 rfl (lv_at hl 3 rfl) ?_
                  refine lv_istore_n (lv' := [(2, .int (nI (ps bv i))), (3, .long 0), (5, .int 0), (6, .int (nI i)), (0, .ref (E.2.1 49)), (1, .int (nI n))]) S.1 S.2.1 dX6_isContent_145 rfl hl (by decide) rfl (fun ls hl => ?_)
                  obtain ⟨z6, ez6⟩ : ∃ y : Int32, y = ((nI i)) + 1 := ⟨_, rfl⟩
                  refine lv_iinc (v := z6) (lv' := [(6, .int z6), (2, .int (nI (ps bv i))), (3, .long 0), (5, .int 0), (0, .ref (E.2.1 49)), (1, .int (nI n))]) S.1 S.2.1 dX6_isContent_146 hl (k := 3) rfl (by rw [ez6]; rfl) (by decide) rfl (fun ls hl => ?_)
                  refine lv_goto (tgt := 31) S.1 S.2.1 dX6_isContent_149 (by decide) ?_
                  refine lv_iload S.1 S.2.1 dX6_isContent_31 (lv_at hl 3 rfl) ?_
                  refine lv_if_eq (tgt := 152) S.1 S.2.1 dX6_isContent_33 (by decide) (fun c7 => ?_) (fun c7 => ?_)
                  · refine lv_iload S.1 S.2.1 dX6_isContent_152 (lv_at hl 3 rfl) ?_
                    refine lv_if_eq (tgt := 169) S.1 S.2.1 dX6_isContent_154 (by decide) (fun c8 => ?_) (fun c8 => ?_)
                    · refine lv_iconst (v := 0) S.1 S.2.1 dX6_isContent_169 (by decide) ?_
                      exact cv_zret S hr (Or.inl rfl) hlk hsz h ⟨rfl, Or.inr ⟨rfl, fun q => hng (q.2.2.1 i hi)⟩⟩ dX6_isContent_170
                    · exact absurd rfl c8
                  · exact absurd rfl c7
                · exact absurd rfl c6
              · exact absurd rfl c5
            have keyT : ∀ (H : Heap) (locs : List Loc) (ls : Array Slot), p1 bv (21 + n) i → cv_H E σ s H locs → lv_has ls 7 [(6, .int (nI i)), (5, .int 1), (3, .long (if i = 0 then 0 else pN bv (i - 1))), (2, .int (nI (ps bv i))), (0, .ref (E.2.1 49)), (1, .int (nI n))] → W p l e (cv_R 3) s m ([.ref (E.2.1 49), .int (nI n)] : List Value).toArray below meth c H locs 0 0 (MQ below (va_Qi (fun r τ => τ = σ ∧ ((r = 1 ∧ pg bv (21 + n)) ∨ (r = 0 ∧ ¬ pg bv (21 + n)))) (cv_B E) (cv_A E sz)) ([.ref (E.2.1 49), .int (nI n)] : List Value).toArray s 0 0 (cv_A E sz)) (F0 m 97 ls []) := by
              intro H locs ls hp h hl
              have hp17 := hp.1
              have hpO : bv (ps bv i + 8) ≤ 2 := hp.2.1
              refine lv_iconst (v := 1) S.1 S.2.1 dX6_isContent_97 (by decide) ?_
              refine lv_goto (tgt := 102) S.1 S.2.1 dX6_isContent_98 (by decide) ?_
              refine lv_istore (lv' := [(5, .int 1), (6, .int (nI i)), (3, .long (if i = 0 then 0 else pN bv (i - 1))), (2, .int (nI (ps bv i))), (0, .ref (E.2.1 49)), (1, .int (nI n))]) S.1 S.2.1 dX6_isContent_102 hl (by decide) rfl (fun ls hl => ?_)
              refine lv_iload S.1 S.2.1 dX6_isContent_104 (lv_at hl 0 rfl) ?_
              refine lv_if_eq (tgt := 117) S.1 S.2.1 dX6_isContent_106 (by decide) (fun c5 => ?_) (fun c5 => ?_)
              · exact absurd c5 (by decide)
              · refine lv_aload_n S.1 S.2.1 dX6_isContent_109 rfl (lv_at hl 4 rfl) ?_
                refine lv_iload_n S.1 S.2.1 dX6_isContent_110 rfl (lv_at hl 3 rfl) ?_
                refine cv_calll (ci := 6) (C := RX6) (T := TX6) (N := 18) S K h hl.1 rfl rfl rfl (m_longAt l E σ bv 300 (Nat.le_refl _) hbv (ps bv i) (by omega)) (cwV 1 S.2.2.2.2 gX6_isContent_X6_longAt rfl rfl rfl (by decide +kernel) ⟨Nat.le_of_ble_eq_true rfl, Nat.le_of_ble_eq_true rfl⟩) rfl rfl (Nat.le_of_ble_eq_true rfl) ⟨Nat.zero_le _, Nat.zero_le _⟩ dX6_isContent_111 (fun l1 σ19 H locs ⟨hl1, hs9⟩ h => ?_)
                rw [hs9] at h
                refine lv_goto (tgt := 118) S.1 S.2.1 dX6_isContent_114 (by decide) ?_
                refine cv_rel (show l1 = if i + 1 = 0 then 0 else pN bv (i + 1 - 1) from by rw [if_neg (Nat.succ_ne_zero i), Nat.add_sub_cancel]; exact hl1) ?_
                refine lv_lstore_n (lv' := [(3, .long (if i + 1 = 0 then 0 else pN bv (i + 1 - 1))), (5, .int 1), (6, .int (nI i)), (2, .int (nI (ps bv i))), (0, .ref (E.2.1 49)), (1, .int (nI n))]) S.1 S.2.1 dX6_isContent_118 rfl hl (by decide) rfl (fun ls hl => ?_)
                refine lv_iload S.1 S.2.1 dX6_isContent_119 (lv_at hl 1 rfl) ?_
                refine lv_if_eq (tgt := 144) S.1 S.2.1 dX6_isContent_121 (by decide) (fun c6 => ?_) (fun c6 => ?_)
                · exact absurd c6 (by decide)
                · refine lv_iload_n S.1 S.2.1 dX6_isContent_124 rfl (lv_at hl 3 rfl) ?_
                  refine lv_bipush (v := 17) S.1 S.2.1 dX6_isContent_125 (by decide) ?_
                  refine lv_iadd S.1 S.2.1 dX6_isContent_127 ?_
                  refine lv_bipush (v := 8) S.1 S.2.1 dX6_isContent_128 (by decide) ?_
                  refine lv_aload_n S.1 S.2.1 dX6_isContent_130 rfl (lv_at hl 4 rfl) ?_
                  refine cv_gf (ci := 6) (C := RX6) (T := TX6) (N := 18) (v := .ref (E.2.1 58)) S K h 49 rfl hinX6 rfl rfl 16 (by decide) hf_35 rfl rfl dX6_isContent_131 ?_
                  refine lv_iload_n S.1 S.2.1 dX6_isContent_134 rfl (lv_at hl 3 rfl) ?_
                  refine lv_bipush (v := 8) S.1 S.2.1 dX6_isContent_135 (by decide) ?_
                  refine lv_iadd S.1 S.2.1 dX6_isContent_137 ?_
                  refine cv_iald S K h 58 rfl (n := 300) rfl (ps bv i + 8) (nI_add _ 8) (by omega) dX6_isContent_138 ?_
                  refine lv_imul S.1 S.2.1 dX6_isContent_139 ?_
                  refine lv_iadd S.1 S.2.1 dX6_isContent_140 ?_
                  refine cv_rei (show (((((nI (ps bv i))) + 17)) + ((8 * ((σ.1 58 (ps bv i + 8)))))) = nI (ps bv (i + 1)) from by rw [(hbv (ps bv i + 8) (by omega)).1, show nI (ps bv i) + 17 = nI (ps bv i + 17) from nI_add _ 17, show (8 : Int32) * nI (bv (ps bv i + 8)) = nI (8 * bv (ps bv i + 8)) from pk_mul 8 _, nI_add]; rfl) ?_
                  refine lv_goto (tgt := 145) S.1 S.2.1 dX6_isContent_141 (by decide) ?_
                  refine lv_istore_n (lv' := [(2, .int (nI (ps bv (i + 1)))), (3, .long (if i + 1 = 0 then 0 else pN bv (i + 1 - 1))), (5, .int 1), (6, .int (nI i)), (0, .ref (E.2.1 49)), (1, .int (nI n))]) S.1 S.2.1 dX6_isContent_145 rfl hl (by decide) rfl (fun ls hl => ?_)
                  obtain ⟨z6, ez6⟩ : ∃ y : Int32, y = ((nI i)) + 1 := ⟨_, rfl⟩
                  refine lv_iinc (v := z6) (lv' := [(6, .int z6), (2, .int (nI (ps bv (i + 1)))), (3, .long (if i + 1 = 0 then 0 else pN bv (i + 1 - 1))), (5, .int 1), (0, .ref (E.2.1 49)), (1, .int (nI n))]) S.1 S.2.1 dX6_isContent_146 hl (k := 3) rfl (by rw [ez6]; rfl) (by decide) rfl (fun ls hl => ?_)
                  refine lv_goto (tgt := 31) S.1 S.2.1 dX6_isContent_149 (by decide) ?_
                  rw [ez6, nI_1] at hl
                  refine ih () σ H locs ls ⟨rfl, ?_, fun j hj => ?_⟩ h (lv_sub hl [0, 3, 2, 1, 4, 5] rfl)
                  · show ps bv i + 17 + 8 * bv (ps bv i + 8) ≤ 316; omega
                  · by_cases hji : j = i
                    · rw [hji]; exact hp
                    · exact g3 j (by omega)
            refine lv_iload_n S.1 S.2.1 dX6_isContent_48 rfl (lv_at hl 3 rfl) ?_
            refine lv_bipush (v := 17) S.1 S.2.1 dX6_isContent_49 (by decide) ?_
            refine lv_iadd S.1 S.2.1 dX6_isContent_51 ?_
            refine cv_rei (show (((nI (ps bv i))) + 17) = nI (ps bv i + 17) from nI_add _ 17) ?_
            refine lv_bipush (v := 21) S.1 S.2.1 dX6_isContent_52 (by decide) ?_
            refine lv_iload_n S.1 S.2.1 dX6_isContent_54 rfl (lv_at hl 5 rfl) ?_
            refine lv_iadd S.1 S.2.1 dX6_isContent_55 ?_
            refine cv_rei (show (21 + ((nI n))) = nI (21 + n) from nI_add 21 n) ?_
            refine lv_icmp_gt (tgt := 101) S.1 S.2.1 dX6_isContent_56 (by decide) (fun d1 => ?_) (fun d1 => ?_)
            · exact keyF H locs ls (fun q => absurd d1 (nI_nlt q.1 (by omega))) h hl
            · have p17 : ps bv i + 17 ≤ 21 + n := Nat.not_lt.mp (fun q => d1 (nI_lt q (by omega)))
              refine lv_aload_n S.1 S.2.1 dX6_isContent_59 rfl (lv_at hl 4 rfl) ?_
              refine cv_gf (ci := 6) (C := RX6) (T := TX6) (N := 18) (v := .ref (E.2.1 58)) S K h 49 rfl hinX6 rfl rfl 16 (by decide) hf_35 rfl rfl dX6_isContent_60 ?_
              refine lv_iload_n S.1 S.2.1 dX6_isContent_63 rfl (lv_at hl 3 rfl) ?_
              refine lv_bipush (v := 8) S.1 S.2.1 dX6_isContent_64 (by decide) ?_
              refine lv_iadd S.1 S.2.1 dX6_isContent_66 ?_
              refine cv_iald S K h 58 rfl (n := 300) rfl (ps bv i + 8) (nI_add _ 8) (by omega) dX6_isContent_67 ?_
              refine cv_rei (show (σ.1 58 (ps bv i + 8)) = nI (bv (ps bv i + 8)) from (hbv _ (by omega)).1) ?_
              refine lv_iconst (v := 2) S.1 S.2.1 dX6_isContent_68 (by decide) ?_
              refine lv_icmp_gt (tgt := 101) S.1 S.2.1 dX6_isContent_69 (by decide) (fun d2 => ?_) (fun d2 => ?_)
              · exact keyF H locs ls (fun q => absurd d2 (nI_nlt (a := 2) q.2.1 (by decide))) h hl
              · have pO2 : bv (ps bv i + 8) ≤ 2 := Nat.not_lt.mp (fun q => d2 (nI_lt (a := 2) q (by have := (hbv (ps bv i + 8) (by omega)).2; omega)))
                refine lv_aload_n S.1 S.2.1 dX6_isContent_72 rfl (lv_at hl 4 rfl) ?_
                refine lv_iload_n S.1 S.2.1 dX6_isContent_73 rfl (lv_at hl 3 rfl) ?_
                refine cv_calll (ci := 6) (C := RX6) (T := TX6) (N := 18) S K h hl.1 rfl rfl rfl (m_longAt l E σ bv 300 (Nat.le_refl _) hbv (ps bv i) (by omega)) (cwV 1 S.2.2.2.2 gX6_isContent_X6_longAt rfl rfl rfl (by decide +kernel) ⟨Nat.le_of_ble_eq_true rfl, Nat.le_of_ble_eq_true rfl⟩) rfl rfl (Nat.le_of_ble_eq_true rfl) ⟨Nat.zero_le _, Nat.zero_le _⟩ dX6_isContent_74 (fun l1 σ20 H locs ⟨hl1, hs9⟩ h => ?_)
                rw [hs9] at h
                refine lv_lconst (v := 0) S.1 S.2.1 dX6_isContent_77 (by decide) ?_
                refine W.lcmp S.1 S.2.1 dX6_isContent_78 ?_
                refine lv_if_eq (tgt := 101) S.1 S.2.1 dX6_isContent_79 (by decide) (fun d3 => ?_) (fun d3 => ?_)
                · exact keyF H locs ls (fun q => q.2.2.1 (by rw [← lg_eq0.mp d3]; exact hl1.symm)) h hl
                · have pn0 : pN bv i ≠ 0 := fun q => d3 (lg_eq0.mpr (hl1.trans q))
                  refine lv_iload S.1 S.2.1 dX6_isContent_82 (lv_at hl 0 rfl) ?_
                  refine lv_if_eq (tgt := 97) S.1 S.2.1 dX6_isContent_84 (by decide) (fun d4 => ?_) (fun d4 => ?_)
                  · exact keyT H locs ls ⟨p17, pO2, pn0, Or.inl ((nI_eq (b := 0) (by omega) (by decide)).mp d4)⟩ h hl
                  · have hi0 : i ≠ 0 := fun q => d4 (by rw [q]; rfl)
                    refine lv_aload_n S.1 S.2.1 dX6_isContent_87 rfl (lv_at hl 4 rfl) ?_
                    refine lv_iload_n S.1 S.2.1 dX6_isContent_88 rfl (lv_at hl 3 rfl) ?_
                    refine cv_calll (ci := 6) (C := RX6) (T := TX6) (N := 18) S K h hl.1 rfl rfl rfl (m_longAt l E σ bv 300 (Nat.le_refl _) hbv (ps bv i) (by omega)) (cwV 1 S.2.2.2.2 gX6_isContent_X6_longAt rfl rfl rfl (by decide +kernel) ⟨Nat.le_of_ble_eq_true rfl, Nat.le_of_ble_eq_true rfl⟩) rfl rfl (Nat.le_of_ble_eq_true rfl) ⟨Nat.zero_le _, Nat.zero_le _⟩ dX6_isContent_89 (fun l2 σ21 H locs ⟨hl2, hs9⟩ h => ?_)
                    rw [hs9] at h
                    refine lv_lload_n S.1 S.2.1 dX6_isContent_92 rfl (lv_at hl 2 rfl) ?_
                    refine W.lcmp S.1 S.2.1 dX6_isContent_93 ?_
                    refine lv_if_le (tgt := 101) S.1 S.2.1 dX6_isContent_94 (by decide) (fun d5 => ?_) (fun d5 => ?_)
                    · refine keyF H locs ls (fun q => ?_) h hl
                      rw [hl2, if_neg hi0] at d5
                      exact lg_gt0.mpr (q.2.2.2.resolve_left hi0) d5
                    · rw [hl2, if_neg hi0, lg_gt0] at d5
                      exact keyT H locs ls ⟨p17, pO2, pn0, Or.inr d5⟩ h hl
      · intro a τ H locs ls hI h hl
        have hl : lv_has ls 7 [(6, .int (nI (bv 21))), (5, .int 1), (3, .long (if (bv 21) = 0 then 0 else pN bv ((bv 21) - 1))), (2, .int (nI (ps bv (bv 21)))), (0, .ref (E.2.1 49)), (1, .int (nI n))] := hl
        obtain ⟨g1, g2, g3⟩ := hI
        rw [g1] at h
        refine lv_iload S.1 S.2.1 dX6_isContent_31 (lv_at hl 1 rfl) ?_
        refine lv_if_eq (tgt := 152) S.1 S.2.1 dX6_isContent_33 (by decide) (fun c3 => ?_) (fun c3 => ?_)
        · exact absurd c3 (by decide)
        · refine lv_iload S.1 S.2.1 dX6_isContent_36 (lv_at hl 0 rfl) ?_
          refine lv_aload_n S.1 S.2.1 dX6_isContent_38 rfl (lv_at hl 4 rfl) ?_
          refine cv_gf (ci := 6) (C := RX6) (T := TX6) (N := 18) (v := .ref (E.2.1 58)) S K h 49 rfl hinX6 rfl rfl 16 (by decide) hf_35 rfl rfl dX6_isContent_39 ?_
          refine lv_bipush (v := 21) S.1 S.2.1 dX6_isContent_42 (by decide) ?_
          refine cv_iald S K h 58 rfl (n := 300) rfl 21 rfl (by decide) dX6_isContent_44 ?_
          refine cv_rei (show (σ.1 58 21) = nI (bv 21) from hb21) ?_
          refine lv_icmp_ge (tgt := 152) S.1 S.2.1 dX6_isContent_45 (by decide) (fun c4 => ?_) (fun c4 => ?_)
          · refine lv_iload S.1 S.2.1 dX6_isContent_152 (lv_at hl 1 rfl) ?_
            refine lv_if_eq (tgt := 169) S.1 S.2.1 dX6_isContent_154 (by decide) (fun c5 => ?_) (fun c5 => ?_)
            · exact absurd c5 (by decide)
            · refine lv_iload_n S.1 S.2.1 dX6_isContent_157 rfl (lv_at hl 3 rfl) ?_
              refine lv_bipush (v := 21) S.1 S.2.1 dX6_isContent_158 (by decide) ?_
              refine lv_iload_n S.1 S.2.1 dX6_isContent_160 rfl (lv_at hl 5 rfl) ?_
              refine lv_iadd S.1 S.2.1 dX6_isContent_161 ?_
              refine cv_rei (show (21 + ((nI n))) = nI (21 + n) from nI_add 21 n) ?_
              refine lv_icmp_ne (tgt := 169) S.1 S.2.1 dX6_isContent_162 (by decide) (fun c6 => ?_) (fun c6 => ?_)
              · refine lv_iconst (v := 0) S.1 S.2.1 dX6_isContent_169 (by decide) ?_
                exact cv_zret S hr (Or.inl rfl) hlk hsz h ⟨rfl, Or.inr ⟨rfl, fun q => c6 (by rw [q.2.2.2])⟩⟩ dX6_isContent_170
              · refine lv_iconst (v := 1) S.1 S.2.1 dX6_isContent_165 (by decide) ?_
                refine lv_goto (tgt := 170) S.1 S.2.1 dX6_isContent_166 (by decide) ?_
                exact cv_zret S hr (Or.inr rfl) hlk hsz h ⟨rfl, Or.inl ⟨rfl, by omega, h8, g3, (nI_eq (by omega) (by omega)).mp c6⟩⟩ dX6_isContent_170
          · exact absurd (Int32.le_refl _) c4
