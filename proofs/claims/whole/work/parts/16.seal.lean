/-! 16: Cipher: seals, the stream -/
theorem pu_min4 {n i : Nat} (h : 4 * i ≤ n) (hn : n < 2 ^ 31) : (if nI n - nI (4 * i) < 4 then nI n - nI (4 * i) else 4) = nI (min 4 (n - 4 * i)) := by
  rw [pk_sub h]
  show (if nI (n - 4 * i) < nI 4 then nI (n - 4 * i) else nI 4) = _
  by_cases h4 : n - 4 * i < 4
  · rw [if_pos (show nI (n - 4 * i) < nI 4 from nI_lt h4 (by decide)), Nat.min_eq_right (by omega)]
  · rw [if_neg (show ¬ nI (n - 4 * i) < nI 4 from nI_nlt (by omega) (by omega)), Nat.min_eq_left (by omega)]

set_option maxHeartbeats 4000000 in
set_option maxRecDepth 100000 in
/-- the seal of the first n bytes: its first two ints -/
theorem c_seal (l : Launch) (E : cv_E) (σ : cv_S) (n : Nat) (hn : n ≤ 300) (z : Int32) : cv_Ml l E yX1_seal wsX1_seal (cv_R 4) [.ref (E.2.1 3), .ref (E.2.1 8), .int (nI n), .int z] σ (fun r τ => r = pu_sl (σ.1 4) (σ.1 9) n z ∧ cv_fr [5, 6, 7] σ τ) := by
  intro sz
  refine cv_in (ws := wsX1_seal) (cc := cX1_seal) (maxL := 6) (ret := (some .long)) (own := RX1) rfl (by decide) rfl (Nat.le_of_ble_eq_true rfl) ?_
  intro p e s m below meth c S K hr hlk hsz h ls hl
  have hl : lv_has ls 6 [(0, .ref (E.2.1 3)), (1, .ref (E.2.1 8)), (2, .int (nI n)), (3, .int z)] := hl
  have hinX1 : ∀ w ∈ u_ws RX1 TX1 4, w ∈ wsX1_seal := by decide +kernel
  have hf_13 := S.2.2.2.2 (.fieldLink RX1 13 "CrashVault$Cipher" "chain" "[I") (by decide +kernel)
  have hf_9 := S.2.2.2.2 (.fieldLink RX1 9 "CrashVault$Cipher" "key" "[I") (by decide +kernel)
  refine lv_aload_n S.1 S.2.1 dX1_seal_0 rfl (lv_at hl 0 rfl) ?_
  refine cv_gf (ci := 1) (C := RX1) (T := TX1) (N := 4) (v := .ref (E.2.1 4)) S K h 3 rfl hinX1 rfl rfl 0 (by decide) hf_9 rfl rfl dX1_seal_1 ?_
  refine lv_iconst (v := 0) S.1 S.2.1 dX1_seal_4 (by decide) ?_
  refine lv_aload_n S.1 S.2.1 dX1_seal_5 rfl (lv_at hl 0 rfl) ?_
  refine cv_gf (ci := 1) (C := RX1) (T := TX1) (N := 4) (v := .ref (E.2.1 5)) S K h 3 rfl hinX1 rfl rfl 1 (by decide) hf_13 rfl rfl dX1_seal_6 ?_
  refine lv_iconst (v := 0) S.1 S.2.1 dX1_seal_9 (by decide) ?_
  refine lv_iconst (v := 4) S.1 S.2.1 dX1_seal_10 (by decide) ?_
  refine cv_copy S K h hl.1 (S.2.2.2.2 (.methodLink RX1 26 arraycopyName) (by decide +kernel)) (S.2.2.2.2 (.native arraycopyName) (by decide +kernel)) (S.2.2.2.2 (.static arraycopyName) (by decide +kernel)) (S.2.2.2.2 (.initialized "java/lang/System") (by decide +kernel)) 4 5 rfl rfl (n0 := 4) rfl (n1 := 4) rfl 0 0 4 rfl rfl rfl (by decide) (by decide) (Nat.le_of_ble_eq_true rfl) (Nat.le_of_ble_eq_true rfl) dX1_seal_11 (fun σ1 H locs eσ1 h => ?_)
  have hst : cv_fr [5, 6, 7] σ σ1 ∧ pu_eq 4 (σ1.1 5) (pu_chain (σ.1 4) (σ.1 9) n z 0) := by
    rw [eσ1]
    refine ⟨cv_fr.up (by decide), fun i hi => ?_⟩
    rw [cv_I1, if_pos rfl, pk_cpy_in (Nat.zero_le _) (by omega), Nat.zero_add, Nat.sub_zero]
    rfl
  refine lv_iconst (v := 0) S.1 S.2.1 dX1_seal_14 (by decide) ?_
  refine lv_istore (lv' := [(4, .int 0), (0, .ref (E.2.1 3)), (1, .ref (E.2.1 8)), (2, .int (nI n)), (3, .int z)]) S.1 S.2.1 dX1_seal_15 hl (by decide) rfl (fun ls hl => ?_)
  refine cv_loop (α := Unit) (nL := 6) ((n + 3) / 4) (fun i a τ => cv_fr [5, 6, 7] σ τ ∧ pu_eq 4 (τ.1 5) (pu_chain (σ.1 4) (σ.1 9) n z i)) (fun i a => [(4, .int (nI i)), (0, .ref (E.2.1 3)), (1, .ref (E.2.1 8)), (2, .int (nI n)), (3, .int z)]) ?_ ?_ 0 () σ1 _ _ _ (by omega) (hst) h hl
  · intro i a τ H locs ls hi hI h hl ih
    have hl : lv_has ls 6 [(4, .int (nI i)), (0, .ref (E.2.1 3)), (1, .ref (E.2.1 8)), (2, .int (nI n)), (3, .int z)] := hl
    have h4i : 4 * i < n := by omega
    refine lv_iconst (v := 4) S.1 S.2.1 dX1_seal_17 (by decide) ?_
    refine lv_iload S.1 S.2.1 dX1_seal_18 (lv_at hl 0 rfl) ?_
    refine lv_imul S.1 S.2.1 dX1_seal_20 ?_
    refine cv_rei (show (4 * ((nI i))) = nI (4 * i) from pk_mul 4 i) ?_
    refine lv_iload_n S.1 S.2.1 dX1_seal_21 rfl (lv_at hl 3 rfl) ?_
    refine lv_icmp_ge (tgt := 65) S.1 S.2.1 dX1_seal_22 (by decide) (fun c1 => ?_) (fun c1 => ?_)
    · exact absurd c1 (nI_ge h4i (by omega))
    · refine lv_aload_n S.1 S.2.1 dX1_seal_25 rfl (lv_at hl 2 rfl) ?_
      refine lv_iconst (v := 4) S.1 S.2.1 dX1_seal_26 (by decide) ?_
      refine lv_iload S.1 S.2.1 dX1_seal_27 (lv_at hl 0 rfl) ?_
      refine lv_imul S.1 S.2.1 dX1_seal_29 ?_
      refine cv_rei (show (4 * ((nI i))) = nI (4 * i) from pk_mul 4 i) ?_
      refine lv_iconst (v := 4) S.1 S.2.1 dX1_seal_30 (by decide) ?_
      refine lv_iload_n S.1 S.2.1 dX1_seal_31 rfl (lv_at hl 3 rfl) ?_
      refine lv_iconst (v := 4) S.1 S.2.1 dX1_seal_32 (by decide) ?_
      refine lv_iload S.1 S.2.1 dX1_seal_33 (lv_at hl 0 rfl) ?_
      refine lv_imul S.1 S.2.1 dX1_seal_35 ?_
      refine cv_rei (show (4 * ((nI i))) = nI (4 * i) from pk_mul 4 i) ?_
      refine lv_isub S.1 S.2.1 dX1_seal_36 ?_
      refine va_mmin S.1 S.2.1 (S.2.2.1.trans hl.1.symm) S.2.2.2.1 (S.2.2.2.2 (.methodLink RX1 32 Lib.Math.min.name) (by decide +kernel)) (S.2.2.2.2 (.static Lib.Math.min.name) (by decide +kernel)) (S.2.2.2.2 (.initialized "java/lang/Math") (by decide +kernel)) (S.2.2.2.2 (.code Lib.Math.min.name Lib.Math.min.code 2 (some .int)) (by decide +kernel)) (Nat.le_of_ble_eq_true rfl) (Nat.le_of_ble_eq_true rfl) (Nat.zero_le _) (Nat.zero_le _) dX1_seal_37 ?_
      refine cv_rei (show (if ((((nI n)) - ((nI (4 * i))))) < 4 then ((((nI n)) - ((nI (4 * i))))) else 4) = nI (min 4 (n - 4 * i)) from pu_min4 (by omega) (by omega)) ?_
      refine cv_calll (ci := 0) (C := RX0) (T := TX0) (N := 1) S K h hl.1 rfl rfl rfl (c_numberAt l E τ (4 * i) (min 4 (n - 4 * i)) (by omega)) (cwV 2 S.2.2.2.2 gX1_seal_X0_numberAt rfl rfl rfl (by decide +kernel) ⟨Nat.le_of_ble_eq_true rfl, Nat.le_of_ble_eq_true rfl⟩) rfl rfl (Nat.le_of_ble_eq_true rfl) ⟨Nat.zero_le _, Nat.zero_le _⟩ dX1_seal_40 (fun rw_ σ2 H locs ⟨hq1, hs9⟩ h => ?_)
      rw [hs9] at h
      refine lv_l2i (v := (rw_ : Int64).toInt32) S.1 S.2.1 dX1_seal_43 rfl ?_
      refine lv_topi (fun wd ewd => ?_)
      refine lv_istore (lv' := [(5, .int wd), (4, .int (nI i)), (0, .ref (E.2.1 3)), (1, .ref (E.2.1 8)), (2, .int (nI n)), (3, .int z)]) S.1 S.2.1 dX1_seal_44 hl (by decide) rfl (fun ls hl => ?_)
      refine lv_aload_n S.1 S.2.1 dX1_seal_46 rfl (lv_at hl 2 rfl) ?_
      refine lv_aload_n S.1 S.2.1 dX1_seal_47 rfl (lv_at hl 2 rfl) ?_
      refine cv_gf (ci := 1) (C := RX1) (T := TX1) (N := 4) (v := .ref (E.2.1 5)) S K h 3 rfl hinX1 rfl rfl 1 (by decide) hf_13 rfl rfl dX1_seal_48 ?_
      refine lv_iload S.1 S.2.1 dX1_seal_51 (lv_at hl 0 rfl) ?_
      refine lv_iload S.1 S.2.1 dX1_seal_53 (lv_at hl 1 rfl) ?_
      refine lv_iload_n S.1 S.2.1 dX1_seal_55 rfl (lv_at hl 5 rfl) ?_
      refine cv_callv (ci := 1) (C := RX1) (T := TX1) (N := 4) S K h hl.1 rfl rfl rfl (c_advance l E τ 5 rfl rfl (by decide) (by decide) wd (nI i) z) (cwV 4 S.2.2.2.2 gX1_seal_X1_advance rfl rfl rfl (by decide +kernel) ⟨Nat.le_of_ble_eq_true rfl, Nat.le_of_ble_eq_true rfl⟩) rfl rfl (Nat.le_of_ble_eq_true rfl) ⟨Nat.zero_le _, Nat.zero_le _⟩ dX1_seal_56 (fun σ3 H locs hq2 h => ?_)
      obtain ⟨z5, ez5⟩ : ∃ y : Int32, y = ((nI i)) + 1 := ⟨_, rfl⟩
      refine lv_iinc (v := z5) (lv' := [(4, .int z5), (5, .int wd), (0, .ref (E.2.1 3)), (1, .ref (E.2.1 8)), (2, .int (nI n)), (3, .int z)]) S.1 S.2.1 dX1_seal_59 hl (k := 1) rfl (by rw [ez5]; rfl) (by decide) rfl (fun ls hl => ?_)
      refine lv_goto (tgt := 17) S.1 S.2.1 dX1_seal_62 (by decide) ?_
      rw [ez5, nI_1] at hl
      refine ih () σ3 H locs ls ⟨hI.1.trans (hq2.1.mono (by decide)), ?_⟩ h (lv_sub hl [0, 2, 3, 4, 5] rfl)
      have := hq2.2
      rw [pu_blk_eq hI.2, ewd, hq1, hI.1.1 9 (by decide)] at this
      exact this
  · intro a τ H locs ls hI h hl
    have hl : lv_has ls 6 [(4, .int (nI ((n + 3) / 4))), (0, .ref (E.2.1 3)), (1, .ref (E.2.1 8)), (2, .int (nI n)), (3, .int z)] := hl
    refine lv_iconst (v := 4) S.1 S.2.1 dX1_seal_17 (by decide) ?_
    refine lv_iload S.1 S.2.1 dX1_seal_18 (lv_at hl 0 rfl) ?_
    refine lv_imul S.1 S.2.1 dX1_seal_20 ?_
    refine cv_rei (show (4 * ((nI ((n + 3) / 4)))) = nI (4 * ((n + 3) / 4)) from pk_mul 4 _) ?_
    refine lv_iload_n S.1 S.2.1 dX1_seal_21 rfl (lv_at hl 3 rfl) ?_
    refine lv_icmp_ge (tgt := 65) S.1 S.2.1 dX1_seal_22 (by decide) (fun c1 => ?_) (fun c1 => ?_)
    · refine lv_aload_n S.1 S.2.1 dX1_seal_65 rfl (lv_at hl 1 rfl) ?_
      refine lv_aload_n S.1 S.2.1 dX1_seal_66 rfl (lv_at hl 1 rfl) ?_
      refine cv_gf (ci := 1) (C := RX1) (T := TX1) (N := 4) (v := .ref (E.2.1 5)) S K h 3 rfl hinX1 rfl rfl 1 (by decide) hf_13 rfl rfl dX1_seal_67 ?_
      refine lv_iload_n S.1 S.2.1 dX1_seal_70 rfl (lv_at hl 3 rfl) ?_
      refine lv_iconst (v := (-1)) S.1 S.2.1 dX1_seal_71 (by decide) ?_
      refine lv_iload_n S.1 S.2.1 dX1_seal_72 rfl (lv_at hl 4 rfl) ?_
      refine cv_callv (ci := 1) (C := RX1) (T := TX1) (N := 4) S K h hl.1 rfl rfl rfl (c_advance l E τ 5 rfl rfl (by decide) (by decide) (nI n) (-1) z) (cwV 4 S.2.2.2.2 gX1_seal_X1_advance rfl rfl rfl (by decide +kernel) ⟨Nat.le_of_ble_eq_true rfl, Nat.le_of_ble_eq_true rfl⟩) rfl rfl (Nat.le_of_ble_eq_true rfl) ⟨Nat.zero_le _, Nat.zero_le _⟩ dX1_seal_73 (fun σ4 H locs hq2 h => ?_)
      refine lv_aload_n S.1 S.2.1 dX1_seal_76 rfl (lv_at hl 1 rfl) ?_
      refine cv_gf (ci := 1) (C := RX1) (T := TX1) (N := 4) (v := .ref (E.2.1 5)) S K h 3 rfl hinX1 rfl rfl 1 (by decide) hf_13 rfl rfl dX1_seal_77 ?_
      refine lv_iconst (v := 1) S.1 S.2.1 dX1_seal_80 (by decide) ?_
      refine cv_iald S K h 5 rfl (n := 4) rfl 1 rfl (by decide) dX1_seal_81 ?_
      refine lv_i2l (v := ((σ4.1 5 1) : Int32).toInt64) S.1 S.2.1 dX1_seal_82 rfl ?_
      refine lv_bipush (v := 32) S.1 S.2.1 dX1_seal_83 (by decide) ?_
      refine lv_lshl (v := ((((σ4.1 5 1) : Int32).toInt64)) <<< ((32 : Int32).toInt64 &&& 63)) S.1 S.2.1 dX1_seal_85 rfl ?_
      refine lv_aload_n S.1 S.2.1 dX1_seal_86 rfl (lv_at hl 1 rfl) ?_
      refine cv_gf (ci := 1) (C := RX1) (T := TX1) (N := 4) (v := .ref (E.2.1 5)) S K h 3 rfl hinX1 rfl rfl 1 (by decide) hf_13 rfl rfl dX1_seal_87 ?_
      refine lv_iconst (v := 0) S.1 S.2.1 dX1_seal_90 (by decide) ?_
      refine cv_iald S K h 5 rfl (n := 4) rfl 0 rfl (by decide) dX1_seal_91 ?_
      refine lv_i2l (v := ((σ4.1 5 0) : Int32).toInt64) S.1 S.2.1 dX1_seal_92 rfl ?_
      refine lv_ldc2 (v := 4294967295) S.1 S.2.1 S.2.2.2.1 (S.2.2.2.2 (.constantLong RX1 44 (4294967295)) (by decide +kernel)) dX1_seal_93 ?_
      refine lv_land S.1 S.2.1 dX1_seal_96 ?_
      refine lv_lor S.1 S.2.1 dX1_seal_97 ?_
      refine cv_lret S hr hlk hsz h ⟨?_, hI.1.trans (hq2.1.mono (by decide))⟩ dX1_seal_98
      have g := hq2.2
      rw [pu_blk_eq hI.2] at g
      rw [g 0 (by decide), g 1 (by decide)]
      rfl
    · exact absurd (nI_le (by omega) (by omega)) c1

set_option maxHeartbeats 4000000 in
set_option maxRecDepth 100000 in
/-- the bytes b .. b + n - 1 are hidden, or shown -/
theorem c_applyStream (l : Launch) (E : cv_E) (σ : cv_S) (b n : Nat) (hb : b + n ≤ 300) (sr : Int32) : cv_Mv l E yX1_applyStream wsX1_applyStream (cv_R 3) [.ref (E.2.1 3), .ref (E.2.1 8), .int (nI b), .int (nI (b + n)), .int sr] σ (fun τ => cv_fr [6, 7, 9] σ τ ∧ τ.1 9 = pu_put (σ.1 9) (fun j => σ.1 9 (b + j) ^^^ pu_strm (σ.1 4) sr j) b n) := by
  intro sz
  refine cv_in (ws := wsX1_applyStream) (cc := cX1_applyStream) (maxL := 7) (ret := none) (own := RX1) rfl (by decide) rfl (Nat.le_of_ble_eq_true rfl) ?_
  intro p e s m below meth c S K hr hlk hsz h ls hl
  have hl : lv_has ls 7 [(0, .ref (E.2.1 3)), (1, .ref (E.2.1 8)), (2, .int (nI b)), (3, .int (nI (b + n))), (4, .int sr)] := hl
  have hinX0 : ∀ w ∈ u_ws RX0 TX0 1, w ∈ wsX1_applyStream := by decide +kernel
  have hinX1 : ∀ w ∈ u_ws RX1 TX1 4, w ∈ wsX1_applyStream := by decide +kernel
  have hf_19 := S.2.2.2.2 (.fieldLink RX1 19 "CrashVault$Cipher" "block" "[I") (by decide +kernel)
  have hf_9 := S.2.2.2.2 (.fieldLink RX1 9 "CrashVault$Cipher" "key" "[I") (by decide +kernel)
  refine lv_iconst (v := 0) S.1 S.2.1 dX1_applyStream_0 (by decide) ?_
  refine lv_istore (lv' := [(5, .int 0), (0, .ref (E.2.1 3)), (1, .ref (E.2.1 8)), (2, .int (nI b)), (3, .int (nI (b + n))), (4, .int sr)]) S.1 S.2.1 dX1_applyStream_1 hl (by decide) rfl (fun ls hl => ?_)
  refine cv_loop (α := Unit) (nL := 7) n (fun i a τ => cv_fr [6, 7, 9] σ τ ∧ τ.1 9 = pu_put (σ.1 9) (fun j => σ.1 9 (b + j) ^^^ pu_strm (σ.1 4) sr j) b i ∧ (i % 64 ≠ 0 → pu_eq 16 (τ.1 7) (pu_blk (σ.1 4) (nI (i / 64)) sr 5))) (fun i a => [(5, .int (nI i)), (0, .ref (E.2.1 3)), (1, .ref (E.2.1 8)), (2, .int (nI b)), (3, .int (nI (b + n))), (4, .int sr)]) ?_ ?_ 0 () σ _ _ _ (by omega) (⟨cv_fr.rf, (pu_put_0 _ _ _).symm, fun q => absurd rfl q⟩) h hl
  · intro i a τ H locs ls hi hI h hl ih
    have hl : lv_has ls 7 [(5, .int (nI i)), (0, .ref (E.2.1 3)), (1, .ref (E.2.1 8)), (2, .int (nI b)), (3, .int (nI (b + n))), (4, .int sr)] := hl
    refine lv_iload_n S.1 S.2.1 dX1_applyStream_3 rfl (lv_at hl 3 rfl) ?_
    refine lv_iload S.1 S.2.1 dX1_applyStream_4 (lv_at hl 0 rfl) ?_
    refine lv_iadd S.1 S.2.1 dX1_applyStream_6 ?_
    refine cv_rei (show (((nI b)) + ((nI i))) = nI (b + i) from nI_add b i) ?_
    refine lv_iload_n S.1 S.2.1 dX1_applyStream_7 rfl (lv_at hl 4 rfl) ?_
    refine lv_icmp_ge (tgt := 78) S.1 S.2.1 dX1_applyStream_8 (by decide) (fun c1 => ?_) (fun c1 => ?_)
    · exact absurd c1 (nI_ge (show b + i < b + n by omega) (by omega))
    · refine lv_iload S.1 S.2.1 dX1_applyStream_11 (lv_at hl 0 rfl) ?_
      refine lv_bipush (v := 64) S.1 S.2.1 dX1_applyStream_13 (by decide) ?_
      refine lv_irem S.1 S.2.1 dX1_applyStream_15 (by decide) ?_
      refine cv_rei (show (((nI i)) - ((nI i)) / 64 * 64) = nI (i % 64) from pk_rem (a := i) (d := 64) (by omega) (by decide) (by decide)) ?_
      refine lv_istore (lv' := [(6, .int (nI (i % 64))), (5, .int (nI i)), (0, .ref (E.2.1 3)), (1, .ref (E.2.1 8)), (2, .int (nI b)), (3, .int (nI (b + n))), (4, .int sr)]) S.1 S.2.1 dX1_applyStream_16 hl (by decide) rfl (fun ls hl => ?_)
      have key : ∀ (τ' : cv_S) (H : Heap) (locs : List Loc) (ls : Array Slot), cv_fr [6, 7, 9] σ τ' → τ'.1 9 = pu_put (σ.1 9) (fun j => σ.1 9 (b + j) ^^^ pu_strm (σ.1 4) sr j) b i → pu_eq 16 (τ'.1 7) (pu_blk (σ.1 4) (nI (i / 64)) sr 5) → cv_H E τ' s H locs → lv_has ls 7 [(6, .int (nI (i % 64))), (5, .int (nI i)), (0, .ref (E.2.1 3)), (1, .ref (E.2.1 8)), (2, .int (nI b)), (3, .int (nI (b + n))), (4, .int sr)] → W p l e (cv_R 3) s m ([.ref (E.2.1 3), .ref (E.2.1 8), .int (nI b), .int (nI (b + n)), .int sr] : List Value).toArray below meth c H locs 0 0 (MQ below (va_Qv (fun τ => cv_fr [6, 7, 9] σ τ ∧ τ.1 9 = pu_put (σ.1 9) (fun j => σ.1 9 (b + j) ^^^ pu_strm (σ.1 4) sr j) b n) (cv_B E) (cv_A E sz)) ([.ref (E.2.1 3), .ref (E.2.1 8), .int (nI b), .int (nI (b + n)), .int sr] : List Value).toArray s 0 0 (cv_A E sz)) (F0 m 39 ls []) := by
        intro τ' H locs ls g1 g2 g3 h hl
        refine lv_aload_n S.1 S.2.1 dX1_applyStream_39 rfl (lv_at hl 3 rfl) ?_
        refine cv_gfN (ci := 0) (C := RX0) (T := TX0) (N := 1) (v := .ref (E.2.1 9)) S K h 8 rfl hinX0 rfl rfl 0 (by decide) (cv_nest_11 K) rfl rfl dX1_applyStream_40 ?_
        refine lv_iload_n S.1 S.2.1 dX1_applyStream_43 rfl (lv_at hl 4 rfl) ?_
        refine lv_iload S.1 S.2.1 dX1_applyStream_44 (lv_at hl 1 rfl) ?_
        refine lv_iadd S.1 S.2.1 dX1_applyStream_46 ?_
        refine cv_rei (show (((nI b)) + ((nI i))) = nI (b + i) from nI_add b i) ?_
        refine lv_dup2_11 S.1 S.2.1 dX1_applyStream_47 rfl rfl ?_
        refine cv_iald S K h 9 rfl (n := 300) rfl (b + i) rfl (by omega) dX1_applyStream_48 ?_
        refine lv_aload_n S.1 S.2.1 dX1_applyStream_49 rfl (lv_at hl 2 rfl) ?_
        refine cv_gf (ci := 1) (C := RX1) (T := TX1) (N := 4) (v := .ref (E.2.1 7)) S K h 3 rfl hinX1 rfl rfl 3 (by decide) hf_19 rfl rfl dX1_applyStream_50 ?_
        refine lv_iload S.1 S.2.1 dX1_applyStream_53 (lv_at hl 0 rfl) ?_
        refine lv_iconst (v := 4) S.1 S.2.1 dX1_applyStream_55 (by decide) ?_
        refine lv_idiv S.1 S.2.1 dX1_applyStream_56 (by decide) ?_
        refine cv_rei (show (((nI (i % 64))) / 4) = nI (i % 64 / 4) from pk_div (d := 4) (by omega) (by decide) (by decide)) ?_
        refine cv_iald S K h 7 rfl (n := 16) rfl (i % 64 / 4) rfl (by omega) dX1_applyStream_57 ?_
        refine lv_bipush (v := 8) S.1 S.2.1 dX1_applyStream_58 (by decide) ?_
        refine lv_iload S.1 S.2.1 dX1_applyStream_60 (lv_at hl 0 rfl) ?_
        refine lv_iconst (v := 4) S.1 S.2.1 dX1_applyStream_62 (by decide) ?_
        refine lv_irem S.1 S.2.1 dX1_applyStream_63 (by decide) ?_
        refine cv_rei (show (((nI (i % 64))) - ((nI (i % 64))) / 4 * 4) = nI (i % 64 % 4) from pk_rem (d := 4) (by omega) (by decide) (by decide)) ?_
        refine lv_imul S.1 S.2.1 dX1_applyStream_64 ?_
        refine lv_iushr (v := (((τ'.1 7 (i % 64 / 4))).toUInt32 >>> (((8 * ((nI (i % 64 % 4)))) : Int32).toUInt32 &&& Int32.toUInt32 31)).toInt32) S.1 S.2.1 dX1_applyStream_65 rfl ?_
        refine lv_sipush (v := 255) S.1 S.2.1 dX1_applyStream_66 (by decide) ?_
        refine lv_iand S.1 S.2.1 dX1_applyStream_69 ?_
        refine lv_ixor S.1 S.2.1 dX1_applyStream_70 ?_
        refine lv_topi (fun xv exv => ?_)
        refine cv_iast (x := xv) S K h 9 rfl (n := 300) rfl (b + i) rfl (by omega) dX1_applyStream_71 (fun σ5 H locs eσ5 h => ?_)
        obtain ⟨z5, ez5⟩ : ∃ y : Int32, y = ((nI i)) + 1 := ⟨_, rfl⟩
        refine lv_iinc (v := z5) (lv' := [(5, .int z5), (6, .int (nI (i % 64))), (0, .ref (E.2.1 3)), (1, .ref (E.2.1 8)), (2, .int (nI b)), (3, .int (nI (b + n))), (4, .int sr)]) S.1 S.2.1 dX1_applyStream_72 hl (k := 1) rfl (by rw [ez5]; rfl) (by decide) rfl (fun ls hl => ?_)
        refine lv_goto (tgt := 3) S.1 S.2.1 dX1_applyStream_75 (by decide) ?_
        rw [ez5, nI_1] at hl
        refine ih () σ5 H locs ls ?_ h (lv_sub hl [0, 2, 3, 4, 5, 6] rfl)
        subst eσ5
        refine ⟨g1.trans (cv_fr.up (by decide)), ?_, fun hne j hj => ?_⟩
        · rw [cv_I1, if_pos rfl, ← pu_put_s, exv, g2, pu_put_out (by omega), g3 _ (by omega)]
          rfl
        · rw [cv_I1, if_neg (by decide), show (i + 1) / 64 = i / 64 by omega]
          exact g3 j hj
      refine lv_iload S.1 S.2.1 dX1_applyStream_18 (lv_at hl 0 rfl) ?_
      refine lv_if_ne (tgt := 39) S.1 S.2.1 dX1_applyStream_20 (by decide) (fun c2 => ?_) (fun c2 => ?_)
      · refine key τ H locs ls hI.1 hI.2.1 (hI.2.2 (fun q => c2 ?_)) h hl
        rw [q]
        rfl
      · refine lv_aload_n S.1 S.2.1 dX1_applyStream_23 rfl (lv_at hl 2 rfl) ?_
        refine lv_aload_n S.1 S.2.1 dX1_applyStream_24 rfl (lv_at hl 2 rfl) ?_
        refine cv_gf (ci := 1) (C := RX1) (T := TX1) (N := 4) (v := .ref (E.2.1 4)) S K h 3 rfl hinX1 rfl rfl 0 (by decide) hf_9 rfl rfl dX1_applyStream_25 ?_
        refine lv_iload S.1 S.2.1 dX1_applyStream_28 (lv_at hl 1 rfl) ?_
        refine lv_bipush (v := 64) S.1 S.2.1 dX1_applyStream_30 (by decide) ?_
        refine lv_idiv S.1 S.2.1 dX1_applyStream_32 (by decide) ?_
        refine cv_rei (show (((nI i)) / 64) = nI (i / 64) from pk_div (d := 64) (by omega) (by decide) (by decide)) ?_
        refine lv_iload S.1 S.2.1 dX1_applyStream_33 (lv_at hl 6 rfl) ?_
        refine lv_iconst (v := 5) S.1 S.2.1 dX1_applyStream_35 (by decide) ?_
        refine cv_callv (ci := 1) (C := RX1) (T := TX1) (N := 4) S K h hl.1 rfl rfl rfl (c_makeBlock l E τ 4 rfl rfl (by decide) (by decide) (nI (i / 64)) sr 5) (cwV 4 S.2.2.2.2 gX1_applyStream_X1_makeBlock rfl rfl rfl (by decide +kernel) ⟨Nat.le_of_ble_eq_true rfl, Nat.le_of_ble_eq_true rfl⟩) rfl rfl (Nat.le_of_ble_eq_true rfl) ⟨Nat.zero_le _, Nat.zero_le _⟩ dX1_applyStream_36 (fun σ6 H locs hq2 h => ?_)
        refine key σ6 H locs ls (hI.1.trans (hq2.1.mono (by decide))) ((hq2.1.1 9 (by decide)).trans hI.2.1) ?_ h hl
        have g := hq2.2
        rw [hI.1.1 4 (by decide)] at g
        exact g
  · intro a τ H locs ls hI h hl
    have hl : lv_has ls 7 [(5, .int (nI n)), (0, .ref (E.2.1 3)), (1, .ref (E.2.1 8)), (2, .int (nI b)), (3, .int (nI (b + n))), (4, .int sr)] := hl
    refine lv_iload_n S.1 S.2.1 dX1_applyStream_3 rfl (lv_at hl 3 rfl) ?_
    refine lv_iload S.1 S.2.1 dX1_applyStream_4 (lv_at hl 0 rfl) ?_
    refine lv_iadd S.1 S.2.1 dX1_applyStream_6 ?_
    refine cv_rei (show (((nI b)) + ((nI n))) = nI (b + n) from nI_add b n) ?_
    refine lv_iload_n S.1 S.2.1 dX1_applyStream_7 rfl (lv_at hl 4 rfl) ?_
    refine lv_icmp_ge (tgt := 78) S.1 S.2.1 dX1_applyStream_8 (by decide) (fun c1 => ?_) (fun c1 => ?_)
    · exact cv_vret S hr hlk hsz h ⟨hI.1, hI.2.1⟩ dX1_applyStream_78
    · exact absurd (Int32.le_refl _) c1
