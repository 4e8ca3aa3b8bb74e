/-! 15: Cipher: blocks, keys -/
set_option maxHeartbeats 4000000 in
set_option maxRecDepth 100000 in
/-- the block of four ints and x, y, z -/
theorem c_makeBlock (l : Launch) (E : cv_E) (σ : cv_S) (kf : Nat) (hkd : cv_kd kf = 1) (hln : cv_ln kf = 4) (h6 : kf ≠ 6) (h7 : kf ≠ 7) (x y z : Int32) : cv_Mv l E yX1_makeBlock wsX1_makeBlock (cv_R 2) [.ref (E.2.1 3), .ref (E.2.1 kf), .int x, .int y, .int z] σ (fun τ => cv_fr [6, 7] σ τ ∧ pu_eq 16 (τ.1 7) (pu_blk (σ.1 kf) x y z)) := by
  intro sz
  refine cv_in (ws := wsX1_makeBlock) (cc := cX1_makeBlock) (maxL := 6) (ret := none) (own := RX1) rfl (by decide) rfl (Nat.le_of_ble_eq_true rfl) ?_
  intro p e s m below meth c S K hr hlk hsz h ls hl
  have hl : lv_has ls 6 [(0, .ref (E.2.1 3)), (1, .ref (E.2.1 kf)), (2, .int x), (3, .int y), (4, .int z)] := hl
  have hinX1 : ∀ w ∈ u_ws RX1 TX1 4, w ∈ wsX1_makeBlock := by decide +kernel
  have hf_16 := S.2.2.2.2 (.fieldLink RX1 16 "CrashVault$Cipher" "start" "[I") (by decide +kernel)
  have hf_19 := S.2.2.2.2 (.fieldLink RX1 19 "CrashVault$Cipher" "block" "[I") (by decide +kernel)
  refine lv_aload_n S.1 S.2.1 dX1_makeBlock_0 rfl (lv_at hl 0 rfl) ?_
  refine cv_gf (ci := 1) (C := RX1) (T := TX1) (N := 4) (v := .ref (E.2.1 6)) S K h 3 rfl hinX1 rfl rfl 2 (by decide) hf_16 rfl rfl dX1_makeBlock_1 ?_
  refine lv_iconst (v := 0) S.1 S.2.1 dX1_makeBlock_4 (by decide) ?_
  refine lv_ldc (v := 1634760805) S.1 S.2.1 S.2.2.2.1 (S.2.2.2.2 (.constant RX1 52 (1634760805)) (by decide +kernel)) dX1_makeBlock_5 ?_
  refine cv_iast (x := 1634760805) S K h 6 rfl (n := 16) rfl 0 rfl (by decide) dX1_makeBlock_7 (fun σ1 H locs eσ1 h => ?_)
  refine lv_aload_n S.1 S.2.1 dX1_makeBlock_8 rfl (lv_at hl 0 rfl) ?_
  refine cv_gf (ci := 1) (C := RX1) (T := TX1) (N := 4) (v := .ref (E.2.1 6)) S K h 3 rfl hinX1 rfl rfl 2 (by decide) hf_16 rfl rfl dX1_makeBlock_9 ?_
  refine lv_iconst (v := 1) S.1 S.2.1 dX1_makeBlock_12 (by decide) ?_
  refine lv_ldc (v := 857760878) S.1 S.2.1 S.2.2.2.1 (S.2.2.2.2 (.constant RX1 53 (857760878)) (by decide +kernel)) dX1_makeBlock_13 ?_
  refine cv_iast (x := 857760878) S K h 6 rfl (n := 16) rfl 1 rfl (by decide) dX1_makeBlock_15 (fun σ2 H locs eσ2 h => ?_)
  refine lv_aload_n S.1 S.2.1 dX1_makeBlock_16 rfl (lv_at hl 0 rfl) ?_
  refine cv_gf (ci := 1) (C := RX1) (T := TX1) (N := 4) (v := .ref (E.2.1 6)) S K h 3 rfl hinX1 rfl rfl 2 (by decide) hf_16 rfl rfl dX1_makeBlock_17 ?_
  refine lv_iconst (v := 2) S.1 S.2.1 dX1_makeBlock_20 (by decide) ?_
  refine lv_ldc (v := 2036477234) S.1 S.2.1 S.2.2.2.1 (S.2.2.2.2 (.constant RX1 54 (2036477234)) (by decide +kernel)) dX1_makeBlock_21 ?_
  refine cv_iast (x := 2036477234) S K h 6 rfl (n := 16) rfl 2 rfl (by decide) dX1_makeBlock_23 (fun σ3 H locs eσ3 h => ?_)
  refine lv_aload_n S.1 S.2.1 dX1_makeBlock_24 rfl (lv_at hl 0 rfl) ?_
  refine cv_gf (ci := 1) (C := RX1) (T := TX1) (N := 4) (v := .ref (E.2.1 6)) S K h 3 rfl hinX1 rfl rfl 2 (by decide) hf_16 rfl rfl dX1_makeBlock_25 ?_
  refine lv_iconst (v := 3) S.1 S.2.1 dX1_makeBlock_28 (by decide) ?_
  refine lv_ldc (v := 1797285236) S.1 S.2.1 S.2.2.2.1 (S.2.2.2.2 (.constant RX1 55 (1797285236)) (by decide +kernel)) dX1_makeBlock_29 ?_
  refine cv_iast (x := 1797285236) S K h 6 rfl (n := 16) rfl 3 rfl (by decide) dX1_makeBlock_31 (fun σ4 H locs eσ4 h => ?_)
  refine lv_aload_n S.1 S.2.1 dX1_makeBlock_32 rfl (lv_at hl 1 rfl) ?_
  refine lv_iconst (v := 0) S.1 S.2.1 dX1_makeBlock_33 (by decide) ?_
  refine lv_aload_n S.1 S.2.1 dX1_makeBlock_34 rfl (lv_at hl 0 rfl) ?_
  refine cv_gf (ci := 1) (C := RX1) (T := TX1) (N := 4) (v := .ref (E.2.1 6)) S K h 3 rfl hinX1 rfl rfl 2 (by decide) hf_16 rfl rfl dX1_makeBlock_35 ?_
  refine lv_iconst (v := 4) S.1 S.2.1 dX1_makeBlock_38 (by decide) ?_
  refine lv_iconst (v := 4) S.1 S.2.1 dX1_makeBlock_39 (by decide) ?_
  refine cv_copy S K h hl.1 (S.2.2.2.2 (.methodLink RX1 26 arraycopyName) (by decide +kernel)) (S.2.2.2.2 (.native arraycopyName) (by decide +kernel)) (S.2.2.2.2 (.static arraycopyName) (by decide +kernel)) (S.2.2.2.2 (.initialized "java/lang/System") (by decide +kernel)) kf 6 hkd rfl hln (n1 := 16) rfl 0 4 4 rfl rfl rfl (by decide) (by decide) (Nat.le_of_ble_eq_true rfl) (Nat.le_of_ble_eq_true rfl) dX1_makeBlock_40 (fun σ5 H locs eσ5 h => ?_)
  refine lv_aload_n S.1 S.2.1 dX1_makeBlock_43 rfl (lv_at hl 1 rfl) ?_
  refine lv_iconst (v := 0) S.1 S.2.1 dX1_makeBlock_44 (by decide) ?_
  refine lv_aload_n S.1 S.2.1 dX1_makeBlock_45 rfl (lv_at hl 0 rfl) ?_
  refine cv_gf (ci := 1) (C := RX1) (T := TX1) (N := 4) (v := .ref (E.2.1 6)) S K h 3 rfl hinX1 rfl rfl 2 (by decide) hf_16 rfl rfl dX1_makeBlock_46 ?_
  refine lv_bipush (v := 8) S.1 S.2.1 dX1_makeBlock_49 (by decide) ?_
  refine lv_iconst (v := 4) S.1 S.2.1 dX1_makeBlock_51 (by decide) ?_
  refine cv_copy S K h hl.1 (S.2.2.2.2 (.methodLink RX1 26 arraycopyName) (by decide +kernel)) (S.2.2.2.2 (.native arraycopyName) (by decide +kernel)) (S.2.2.2.2 (.static arraycopyName) (by decide +kernel)) (S.2.2.2.2 (.initialized "java/lang/System") (by decide +kernel)) kf 6 hkd rfl hln (n1 := 16) rfl 0 8 4 rfl rfl rfl (by decide) (by decide) (Nat.le_of_ble_eq_true rfl) (Nat.le_of_ble_eq_true rfl) dX1_makeBlock_52 (fun σ6 H locs eσ6 h => ?_)
  refine lv_aload_n S.1 S.2.1 dX1_makeBlock_55 rfl (lv_at hl 0 rfl) ?_
  refine cv_gf (ci := 1) (C := RX1) (T := TX1) (N := 4) (v := .ref (E.2.1 6)) S K h 3 rfl hinX1 rfl rfl 2 (by decide) hf_16 rfl rfl dX1_makeBlock_56 ?_
  refine lv_bipush (v := 12) S.1 S.2.1 dX1_makeBlock_59 (by decide) ?_
  refine lv_iload_n S.1 S.2.1 dX1_makeBlock_61 rfl (lv_at hl 2 rfl) ?_
  refine cv_iast (x := x) S K h 6 rfl (n := 16) rfl 12 rfl (by decide) dX1_makeBlock_62 (fun σ7 H locs eσ7 h => ?_)
  refine lv_aload_n S.1 S.2.1 dX1_makeBlock_63 rfl (lv_at hl 0 rfl) ?_
  refine cv_gf (ci := 1) (C := RX1) (T := TX1) (N := 4) (v := .ref (E.2.1 6)) S K h 3 rfl hinX1 rfl rfl 2 (by decide) hf_16 rfl rfl dX1_makeBlock_64 ?_
  refine lv_bipush (v := 13) S.1 S.2.1 dX1_makeBlock_67 (by decide) ?_
  refine lv_iload_n S.1 S.2.1 dX1_makeBlock_69 rfl (lv_at hl 3 rfl) ?_
  refine cv_iast (x := y) S K h 6 rfl (n := 16) rfl 13 rfl (by decide) dX1_makeBlock_70 (fun σ8 H locs eσ8 h => ?_)
  refine lv_aload_n S.1 S.2.1 dX1_makeBlock_71 rfl (lv_at hl 0 rfl) ?_
  refine cv_gf (ci := 1) (C := RX1) (T := TX1) (N := 4) (v := .ref (E.2.1 6)) S K h 3 rfl hinX1 rfl rfl 2 (by decide) hf_16 rfl rfl dX1_makeBlock_72 ?_
  refine lv_bipush (v := 14) S.1 S.2.1 dX1_makeBlock_75 (by decide) ?_
  refine lv_iload S.1 S.2.1 dX1_makeBlock_77 (lv_at hl 4 rfl) ?_
  refine cv_iast (x := z) S K h 6 rfl (n := 16) rfl 14 rfl (by decide) dX1_makeBlock_79 (fun σ9 H locs eσ9 h => ?_)
  refine lv_aload_n S.1 S.2.1 dX1_makeBlock_80 rfl (lv_at hl 0 rfl) ?_
  refine cv_gf (ci := 1) (C := RX1) (T := TX1) (N := 4) (v := .ref (E.2.1 6)) S K h 3 rfl hinX1 rfl rfl 2 (by decide) hf_16 rfl rfl dX1_makeBlock_81 ?_
  refine lv_bipush (v := 15) S.1 S.2.1 dX1_makeBlock_84 (by decide) ?_
  refine lv_iconst (v := 0) S.1 S.2.1 dX1_makeBlock_86 (by decide) ?_
  refine cv_iast (x := 0) S K h 6 rfl (n := 16) rfl 15 rfl (by decide) dX1_makeBlock_87 (fun σ10 H locs eσ10 h => ?_)
  have hst : cv_fr [6, 7] σ σ10 ∧ pu_eq 16 (σ10.1 6) (pu_start (σ.1 kf) x y z) := by
    subst eσ10 eσ9 eσ8 eσ7 eσ6 eσ5 eσ4 eσ3 eσ2 eσ1
    refine ⟨⟨fun k hk => ?_, rfl⟩, fun i hi => ?_⟩
    · have hk6 : k ≠ 6 := fun q => hk (by rw [q]; decide)
      simp only [cv_I1, if_neg hk6]
    · rcases (show i = 0 ∨ i = 1 ∨ i = 2 ∨ i = 3 ∨ i = 4 ∨ i = 5 ∨ i = 6 ∨ i = 7 ∨ i = 8 ∨ i = 9 ∨ i = 10 ∨ i = 11 ∨ i = 12 ∨ i = 13 ∨ i = 14 ∨ i = 15 by omega) with rfl | rfl | rfl | rfl | rfl | rfl | rfl | rfl | rfl | rfl | rfl | rfl | rfl | rfl | rfl | rfl <;> simp [cv_I1, h6, upd, va_cpy, pu_start]
  refine lv_aload_n S.1 S.2.1 dX1_makeBlock_88 rfl (lv_at hl 0 rfl) ?_
  refine cv_gf (ci := 1) (C := RX1) (T := TX1) (N := 4) (v := .ref (E.2.1 6)) S K h 3 rfl hinX1 rfl rfl 2 (by decide) hf_16 rfl rfl dX1_makeBlock_89 ?_
  refine lv_iconst (v := 0) S.1 S.2.1 dX1_makeBlock_92 (by decide) ?_
  refine lv_aload_n S.1 S.2.1 dX1_makeBlock_93 rfl (lv_at hl 0 rfl) ?_
  refine cv_gf (ci := 1) (C := RX1) (T := TX1) (N := 4) (v := .ref (E.2.1 7)) S K h 3 rfl hinX1 rfl rfl 3 (by decide) hf_19 rfl rfl dX1_makeBlock_94 ?_
  refine lv_iconst (v := 0) S.1 S.2.1 dX1_makeBlock_97 (by decide) ?_
  refine lv_bipush (v := 16) S.1 S.2.1 dX1_makeBlock_98 (by decide) ?_
  refine cv_copy S K h hl.1 (S.2.2.2.2 (.methodLink RX1 26 arraycopyName) (by decide +kernel)) (S.2.2.2.2 (.native arraycopyName) (by decide +kernel)) (S.2.2.2.2 (.static arraycopyName) (by decide +kernel)) (S.2.2.2.2 (.initialized "java/lang/System") (by decide +kernel)) 6 7 rfl rfl (n0 := 16) rfl (n1 := 16) rfl 0 0 16 rfl rfl rfl (by decide) (by decide) (Nat.le_of_ble_eq_true rfl) (Nat.le_of_ble_eq_true rfl) dX1_makeBlock_100 (fun σ11 H locs eσ11 h => ?_)
  have hst2 : cv_fr [6, 7] σ σ11 ∧ pu_eq 16 (σ11.1 6) (pu_start (σ.1 kf) x y z) ∧ pu_eq 16 (σ11.1 7) (pu_it 0 (pu_start (σ.1 kf) x y z)) := by
    obtain ⟨q1, q2⟩ := hst
    rw [eσ11]
    refine ⟨q1.trans (cv_fr.up (by decide)), fun i hi => ?_, fun i hi => ?_⟩
    · rw [cv_I1, if_neg (by decide)]; exact q2 i hi
    · rw [cv_I1, if_pos rfl, pk_cpy_in (Nat.zero_le _) (by omega)]
      show σ10.1 6 (0 + (i - 0)) = _
      rw [Nat.zero_add, Nat.sub_zero]; exact q2 i hi
  refine lv_iconst (v := 0) S.1 S.2.1 dX1_makeBlock_103 (by decide) ?_
  refine lv_istore (lv' := [(5, .int 0), (0, .ref (E.2.1 3)), (1, .ref (E.2.1 kf)), (2, .int x), (3, .int y), (4, .int z)]) S.1 S.2.1 dX1_makeBlock_104 hl (by decide) rfl (fun ls hl => ?_)
  refine cv_loop (α := Unit) (nL := 6) 4 (fun i a τ => cv_fr [6, 7] σ τ ∧ pu_eq 16 (τ.1 6) (pu_start (σ.1 kf) x y z) ∧ pu_eq 16 (τ.1 7) (pu_it i (pu_start (σ.1 kf) x y z))) (fun i a => [(5, .int (nI i)), (0, .ref (E.2.1 3)), (1, .ref (E.2.1 kf)), (2, .int x), (3, .int y), (4, .int z)]) ?_ ?_ 0 () σ11 _ _ _ (by omega) (hst2) h hl
  · intro i a τ H locs ls hi hI h hl ih
    have hl : lv_has ls 6 [(5, .int (nI i)), (0, .ref (E.2.1 3)), (1, .ref (E.2.1 kf)), (2, .int x), (3, .int y), (4, .int z)] := hl
    refine lv_iload S.1 S.2.1 dX1_makeBlock_106 (lv_at hl 0 rfl) ?_
    refine lv_iconst (v := 4) S.1 S.2.1 dX1_makeBlock_108 (by decide) ?_
    refine lv_icmp_ge (tgt := 202) S.1 S.2.1 dX1_makeBlock_109 (by decide) (fun c1 => ?_) (fun c1 => ?_)
    · exact absurd c1 (nI_ge (b := 4) hi (by decide))
    · refine lv_aload_n S.1 S.2.1 dX1_makeBlock_112 rfl (lv_at hl 1 rfl) ?_
      refine lv_iconst (v := 0) S.1 S.2.1 dX1_makeBlock_113 (by decide) ?_
      refine lv_iconst (v := 4) S.1 S.2.1 dX1_makeBlock_114 (by decide) ?_
      refine lv_bipush (v := 8) S.1 S.2.1 dX1_makeBlock_115 (by decide) ?_
      refine lv_bipush (v := 12) S.1 S.2.1 dX1_makeBlock_117 (by decide) ?_
      refine cv_callv (ci := 1) (C := RX1) (T := TX1) (N := 4) S K h hl.1 rfl rfl rfl (c_stir l E τ 0 4 8 12 (by decide) (by decide) (by decide) (by decide)) (cwV 4 S.2.2.2.2 gX1_makeBlock_X1_stir rfl rfl rfl (by decide +kernel) ⟨Nat.le_of_ble_eq_true rfl, Nat.le_of_ble_eq_true rfl⟩) rfl rfl (Nat.le_of_ble_eq_true rfl) ⟨Nat.zero_le _, Nat.zero_le _⟩ dX1_makeBlock_119 (fun σ12 H locs q119 h => ?_)
      refine lv_aload_n S.1 S.2.1 dX1_makeBlock_122 rfl (lv_at hl 1 rfl) ?_
      refine lv_iconst (v := 1) S.1 S.2.1 dX1_makeBlock_123 (by decide) ?_
      refine lv_iconst (v := 5) S.1 S.2.1 dX1_makeBlock_124 (by decide) ?_
      refine lv_bipush (v := 9) S.1 S.2.1 dX1_makeBlock_125 (by decide) ?_
      refine lv_bipush (v := 13) S.1 S.2.1 dX1_makeBlock_127 (by decide) ?_
      refine cv_callv (ci := 1) (C := RX1) (T := TX1) (N := 4) S K h hl.1 rfl rfl rfl (c_stir l E σ12 1 5 9 13 (by decide) (by decide) (by decide) (by decide)) (cwV 4 S.2.2.2.2 gX1_makeBlock_X1_stir rfl rfl rfl (by decide +kernel) ⟨Nat.le_of_ble_eq_true rfl, Nat.le_of_ble_eq_true rfl⟩) rfl rfl (Nat.le_of_ble_eq_true rfl) ⟨Nat.zero_le _, Nat.zero_le _⟩ dX1_makeBlock_129 (fun σ13 H locs q129 h => ?_)
      refine lv_aload_n S.1 S.2.1 dX1_makeBlock_132 rfl (lv_at hl 1 rfl) ?_
      refine lv_iconst (v := 2) S.1 S.2.1 dX1_makeBlock_133 (by decide) ?_
      refine lv_bipush (v := 6) S.1 S.2.1 dX1_makeBlock_134 (by decide) ?_
      refine lv_bipush (v := 10) S.1 S.2.1 dX1_makeBlock_136 (by decide) ?_
      refine lv_bipush (v := 14) S.1 S.2.1 dX1_makeBlock_138 (by decide) ?_
      refine cv_callv (ci := 1) (C := RX1) (T := TX1) (N := 4) S K h hl.1 rfl rfl rfl (c_stir l E σ13 2 6 10 14 (by decide) (by decide) (by decide) (by decide)) (cwV 4 S.2.2.2.2 gX1_makeBlock_X1_stir rfl rfl rfl (by decide +kernel) ⟨Nat.le_of_ble_eq_true rfl, Nat.le_of_ble_eq_true rfl⟩) rfl rfl (Nat.le_of_ble_eq_true rfl) ⟨Nat.zero_le _, Nat.zero_le _⟩ dX1_makeBlock_140 (fun σ14 H locs q140 h => ?_)
      refine lv_aload_n S.1 S.2.1 dX1_makeBlock_143 rfl (lv_at hl 1 rfl) ?_
      refine lv_iconst (v := 3) S.1 S.2.1 dX1_makeBlock_144 (by decide) ?_
      refine lv_bipush (v := 7) S.1 S.2.1 dX1_makeBlock_145 (by decide) ?_
      refine lv_bipush (v := 11) S.1 S.2.1 dX1_makeBlock_147 (by decide) ?_
      refine lv_bipush (v := 15) S.1 S.2.1 dX1_makeBlock_149 (by decide) ?_
      refine cv_callv (ci := 1) (C := RX1) (T := TX1) (N := 4) S K h hl.1 rfl rfl rfl (c_stir l E σ14 3 7 11 15 (by decide) (by decide) (by decide) (by decide)) (cwV 4 S.2.2.2.2 gX1_makeBlock_X1_stir rfl rfl rfl (by decide +kernel) ⟨Nat.le_of_ble_eq_true rfl, Nat.le_of_ble_eq_true rfl⟩) rfl rfl (Nat.le_of_ble_eq_true rfl) ⟨Nat.zero_le _, Nat.zero_le _⟩ dX1_makeBlock_151 (fun σ15 H locs q151 h => ?_)
      refine lv_aload_n S.1 S.2.1 dX1_makeBlock_154 rfl (lv_at hl 1 rfl) ?_
      refine lv_iconst (v := 0) S.1 S.2.1 dX1_makeBlock_155 (by decide) ?_
      refine lv_iconst (v := 5) S.1 S.2.1 dX1_makeBlock_156 (by decide) ?_
      refine lv_bipush (v := 10) S.1 S.2.1 dX1_makeBlock_157 (by decide) ?_
      refine lv_bipush (v := 15) S.1 S.2.1 dX1_makeBlock_159 (by decide) ?_
      refine cv_callv (ci := 1) (C := RX1) (T := TX1) (N := 4) S K h hl.1 rfl rfl rfl (c_stir l E σ15 0 5 10 15 (by decide) (by decide) (by decide) (by decide)) (cwV 4 S.2.2.2.2 gX1_makeBlock_X1_stir rfl rfl rfl (by decide +kernel) ⟨Nat.le_of_ble_eq_true rfl, Nat.le_of_ble_eq_true rfl⟩) rfl rfl (Nat.le_of_ble_eq_true rfl) ⟨Nat.zero_le _, Nat.zero_le _⟩ dX1_makeBlock_161 (fun σ16 H locs q161 h => ?_)
      refine lv_aload_n S.1 S.2.1 dX1_makeBlock_164 rfl (lv_at hl 1 rfl) ?_
      refine lv_iconst (v := 1) S.1 S.2.1 dX1_makeBlock_165 (by decide) ?_
      refine lv_bipush (v := 6) S.1 S.2.1 dX1_makeBlock_166 (by decide) ?_
      refine lv_bipush (v := 11) S.1 S.2.1 dX1_makeBlock_168 (by decide) ?_
      refine lv_bipush (v := 12) S.1 S.2.1 dX1_makeBlock_170 (by decide) ?_
      refine cv_callv (ci := 1) (C := RX1) (T := TX1) (N := 4) S K h hl.1 rfl rfl rfl (c_stir l E σ16 1 6 11 12 (by decide) (by decide) (by decide) (by decide)) (cwV 4 S.2.2.2.2 gX1_makeBlock_X1_stir rfl rfl rfl (by decide +kernel) ⟨Nat.le_of_ble_eq_true rfl, Nat.le_of_ble_eq_true rfl⟩) rfl rfl (Nat.le_of_ble_eq_true rfl) ⟨Nat.zero_le _, Nat.zero_le _⟩ dX1_makeBlock_172 (fun σ17 H locs q172 h => ?_)
      refine lv_aload_n S.1 S.2.1 dX1_makeBlock_175 rfl (lv_at hl 1 rfl) ?_
      refine lv_iconst (v := 2) S.1 S.2.1 dX1_makeBlock_176 (by decide) ?_
      refine lv_bipush (v := 7) S.1 S.2.1 dX1_makeBlock_177 (by decide) ?_
      refine lv_bipush (v := 8) S.1 S.2.1 dX1_makeBlock_179 (by decide) ?_
      refine lv_bipush (v := 13) S.1 S.2.1 dX1_makeBlock_181 (by decide) ?_
      refine cv_callv (ci := 1) (C := RX1) (T := TX1) (N := 4) S K h hl.1 rfl rfl rfl (c_stir l E σ17 2 7 8 13 (by decide) (by decide) (by decide) (by decide)) (cwV 4 S.2.2.2.2 gX1_makeBlock_X1_stir rfl rfl rfl (by decide +kernel) ⟨Nat.le_of_ble_eq_true rfl, Nat.le_of_ble_eq_true rfl⟩) rfl rfl (Nat.le_of_ble_eq_true rfl) ⟨Nat.zero_le _, Nat.zero_le _⟩ dX1_makeBlock_183 (fun σ18 H locs q183 h => ?_)
      refine lv_aload_n S.1 S.2.1 dX1_makeBlock_186 rfl (lv_at hl 1 rfl) ?_
      refine lv_iconst (v := 3) S.1 S.2.1 dX1_makeBlock_187 (by decide) ?_
      refine lv_iconst (v := 4) S.1 S.2.1 dX1_makeBlock_188 (by decide) ?_
      refine lv_bipush (v := 9) S.1 S.2.1 dX1_makeBlock_189 (by decide) ?_
      refine lv_bipush (v := 14) S.1 S.2.1 dX1_makeBlock_191 (by decide) ?_
      refine cv_callv (ci := 1) (C := RX1) (T := TX1) (N := 4) S K h hl.1 rfl rfl rfl (c_stir l E σ18 3 4 9 14 (by decide) (by decide) (by decide) (by decide)) (cwV 4 S.2.2.2.2 gX1_makeBlock_X1_stir rfl rfl rfl (by decide +kernel) ⟨Nat.le_of_ble_eq_true rfl, Nat.le_of_ble_eq_true rfl⟩) rfl rfl (Nat.le_of_ble_eq_true rfl) ⟨Nat.zero_le _, Nat.zero_le _⟩ dX1_makeBlock_193 (fun σ19 H locs q193 h => ?_)
      obtain ⟨z5, ez5⟩ : ∃ y : Int32, y = ((nI i)) + 1 := ⟨_, rfl⟩
      refine lv_iinc (v := z5) (lv' := [(5, .int z5), (0, .ref (E.2.1 3)), (1, .ref (E.2.1 kf)), (2, .int x), (3, .int y), (4, .int z)]) S.1 S.2.1 dX1_makeBlock_196 hl (k := 0) rfl (by rw [ez5]; rfl) (by decide) rfl (fun ls hl => ?_)
      refine lv_goto (tgt := 106) S.1 S.2.1 dX1_makeBlock_199 (by decide) ?_
      rw [ez5, nI_1] at hl
      refine ih () σ19 H locs ls ?_ h hl
      obtain ⟨g1, g2, g3⟩ := hI
      have r1 : σ12.1 7 = pu_stir (τ.1 7) 0 4 8 12 := by rw [q119, cv_I1, if_pos rfl]
      have r2 : σ13.1 7 = pu_stir (σ12.1 7) 1 5 9 13 := by rw [q129, cv_I1, if_pos rfl]
      have r3 : σ14.1 7 = pu_stir (σ13.1 7) 2 6 10 14 := by rw [q140, cv_I1, if_pos rfl]
      have r4 : σ15.1 7 = pu_stir (σ14.1 7) 3 7 11 15 := by rw [q151, cv_I1, if_pos rfl]
      have r5 : σ16.1 7 = pu_stir (σ15.1 7) 0 5 10 15 := by rw [q161, cv_I1, if_pos rfl]
      have r6_ : σ17.1 7 = pu_stir (σ16.1 7) 1 6 11 12 := by rw [q172, cv_I1, if_pos rfl]
      have r7 : σ18.1 7 = pu_stir (σ17.1 7) 2 7 8 13 := by rw [q183, cv_I1, if_pos rfl]
      have r8 : σ19.1 7 = pu_stir (σ18.1 7) 3 4 9 14 := by rw [q193, cv_I1, if_pos rfl]
      have r0 : cv_fr [6, 7] τ σ19 := by
        rw [q193, q183, q172, q161, q151, q140, q129, q119]
        exact ⟨fun k hk => by
          have hk7 : k ≠ 7 := fun q => hk (by rw [q]; decide)
          simp only [cv_I1, if_neg hk7], rfl⟩
      have r6 : σ19.1 6 = τ.1 6 := by
        rw [q193, q183, q172, q161, q151, q140, q129, q119]
        rfl
      refine ⟨g1.trans r0, by rw [r6]; exact g2, ?_⟩
      rw [r8, r7, r6_, r5, r4, r3, r2, r1]
      exact pu_h2_eq (pu_h1_eq g3)
  · intro a τ H locs ls hI h hl
    have hl : lv_has ls 6 [(5, .int (nI 4)), (0, .ref (E.2.1 3)), (1, .ref (E.2.1 kf)), (2, .int x), (3, .int y), (4, .int z)] := hl
    refine lv_iload S.1 S.2.1 dX1_makeBlock_106 (lv_at hl 0 rfl) ?_
    refine lv_iconst (v := 4) S.1 S.2.1 dX1_makeBlock_108 (by decide) ?_
    refine lv_icmp_ge (tgt := 202) S.1 S.2.1 dX1_makeBlock_109 (by decide) (fun c1 => ?_) (fun c1 => ?_)
    · refine lv_iconst (v := 0) S.1 S.2.1 dX1_makeBlock_202 (by decide) ?_
      refine lv_istore (lv' := [(5, .int 0), (0, .ref (E.2.1 3)), (1, .ref (E.2.1 kf)), (2, .int x), (3, .int y), (4, .int z)]) S.1 S.2.1 dX1_makeBlock_203 hl (by decide) rfl (fun ls hl => ?_)
      refine cv_loop (α := Unit) (nL := 6) 16 (fun i a τ => cv_fr [6, 7] σ τ ∧ pu_eq 16 (τ.1 6) (pu_start (σ.1 kf) x y z) ∧ ∀ j, j < 16 → τ.1 7 j = if j < i then pu_it 4 (pu_start (σ.1 kf) x y z) j + (pu_start (σ.1 kf) x y z) j else pu_it 4 (pu_start (σ.1 kf) x y z) j) (fun i a => [(5, .int (nI i)), (0, .ref (E.2.1 3)), (1, .ref (E.2.1 kf)), (2, .int x), (3, .int y), (4, .int z)]) ?_ ?_ 0 () τ _ _ _ (by omega) (⟨hI.1, hI.2.1, fun j hj => by rw [if_neg (Nat.not_lt_zero j)]; exact hI.2.2 j hj⟩) h hl
      · intro i a τ H locs ls hi hI h hl ih
        have hl : lv_has ls 6 [(5, .int (nI i)), (0, .ref (E.2.1 3)), (1, .ref (E.2.1 kf)), (2, .int x), (3, .int y), (4, .int z)] := hl
        refine lv_iload S.1 S.2.1 dX1_makeBlock_205 (lv_at hl 0 rfl) ?_
        refine lv_bipush (v := 16) S.1 S.2.1 dX1_makeBlock_207 (by decide) ?_
        refine lv_icmp_ge (tgt := 235) S.1 S.2.1 dX1_makeBlock_209 (by decide) (fun c2 => ?_) (fun c2 => ?_)
        · exact absurd c2 (nI_ge (b := 16) hi (by decide))
        · refine lv_aload_n S.1 S.2.1 dX1_makeBlock_212 rfl (lv_at hl 1 rfl) ?_
          refine cv_gf (ci := 1) (C := RX1) (T := TX1) (N := 4) (v := .ref (E.2.1 7)) S K h 3 rfl hinX1 rfl rfl 3 (by decide) hf_19 rfl rfl dX1_makeBlock_213 ?_
          refine lv_iload S.1 S.2.1 dX1_makeBlock_216 (lv_at hl 0 rfl) ?_
          refine lv_dup2_11 S.1 S.2.1 dX1_makeBlock_218 rfl rfl ?_
          refine cv_iald S K h 7 rfl (n := 16) rfl i rfl hi dX1_makeBlock_219 ?_
          refine lv_aload_n S.1 S.2.1 dX1_makeBlock_220 rfl (lv_at hl 1 rfl) ?_
          refine cv_gf (ci := 1) (C := RX1) (T := TX1) (N := 4) (v := .ref (E.2.1 6)) S K h 3 rfl hinX1 rfl rfl 2 (by decide) hf_16 rfl rfl dX1_makeBlock_221 ?_
          refine lv_iload S.1 S.2.1 dX1_makeBlock_224 (lv_at hl 0 rfl) ?_
          refine cv_iald S K h 6 rfl (n := 16) rfl i rfl hi dX1_makeBlock_226 ?_
          refine lv_iadd S.1 S.2.1 dX1_makeBlock_227 ?_
          refine lv_topi (fun xv exv => ?_)
          refine cv_iast (x := xv) S K h 7 rfl (n := 16) rfl i rfl hi dX1_makeBlock_228 (fun σ20 H locs eσ20 h => ?_)
          obtain ⟨z5, ez5⟩ : ∃ y : Int32, y = ((nI i)) + 1 := ⟨_, rfl⟩
          refine lv_iinc (v := z5) (lv' := [(5, .int z5), (0, .ref (E.2.1 3)), (1, .ref (E.2.1 kf)), (2, .int x), (3, .int y), (4, .int z)]) S.1 S.2.1 dX1_makeBlock_229 hl (k := 0) rfl (by rw [ez5]; rfl) (by decide) rfl (fun ls hl => ?_)
          refine lv_goto (tgt := 205) S.1 S.2.1 dX1_makeBlock_232 (by decide) ?_
          rw [ez5, nI_1] at hl
          refine ih () σ20 H locs ls ?_ h hl
          obtain ⟨g1, g2, g3⟩ := hI
          subst eσ20
          refine ⟨g1.trans (cv_fr.up (by decide)), g2, fun j hj => ?_⟩
          rw [cv_I1, if_pos rfl]
          unfold upd
          by_cases hji : j = i
          · subst hji
            rw [if_pos rfl, if_pos (by omega), exv, g3 j hj, if_neg (by omega), g2 j hj]
          · rw [if_neg hji, g3 j hj]
            by_cases hj2 : j < i
            · rw [if_pos hj2, if_pos (by omega)]
            · rw [if_neg hj2, if_neg (by omega)]
      · intro a τ H locs ls hI h hl
        have hl : lv_has ls 6 [(5, .int (nI 16)), (0, .ref (E.2.1 3)), (1, .ref (E.2.1 kf)), (2, .int x), (3, .int y), (4, .int z)] := hl
        refine lv_iload S.1 S.2.1 dX1_makeBlock_205 (lv_at hl 0 rfl) ?_
        refine lv_bipush (v := 16) S.1 S.2.1 dX1_makeBlock_207 (by decide) ?_
        refine lv_icmp_ge (tgt := 235) S.1 S.2.1 dX1_makeBlock_209 (by decide) (fun c2 => ?_) (fun c2 => ?_)
        · exact cv_vret S hr hlk hsz h ⟨hI.1, fun j hj => by rw [hI.2.2 j hj, if_pos hj]; rfl⟩ dX1_makeBlock_235
        · exact absurd (Int32.le_refl _) c2
    · exact absurd (Int32.le_refl _) c1

set_option maxHeartbeats 4000000 in
set_option maxRecDepth 100000 in
/-- the four ints become the first of their block -/
theorem c_advance (l : Launch) (E : cv_E) (σ : cv_S) (kf : Nat) (hkd : cv_kd kf = 1) (hln : cv_ln kf = 4) (h6 : kf ≠ 6) (h7 : kf ≠ 7) (x y z : Int32) : cv_Mv l E yX1_advance wsX1_advance (cv_R 3) [.ref (E.2.1 3), .ref (E.2.1 kf), .int x, .int y, .int z] σ (fun τ => cv_fr [6, 7, kf] σ τ ∧ pu_eq 4 (τ.1 kf) (pu_blk (σ.1 kf) x y z)) := by
  intro sz
  refine cv_in (ws := wsX1_advance) (cc := cX1_advance) (maxL := 5) (ret := none) (own := RX1) rfl (by decide) rfl (Nat.le_of_ble_eq_true rfl) ?_
  intro p e s m below meth c S K hr hlk hsz h ls hl
  have hl : lv_has ls 5 [(0, .ref (E.2.1 3)), (1, .ref (E.2.1 kf)), (2, .int x), (3, .int y), (4, .int z)] := hl
  have hinX1 : ∀ w ∈ u_ws RX1 TX1 4, w ∈ wsX1_advance := by decide +kernel
  have hf_19 := S.2.2.2.2 (.fieldLink RX1 19 "CrashVault$Cipher" "block" "[I") (by decide +kernel)
  refine lv_aload_n S.1 S.2.1 dX1_advance_0 rfl (lv_at hl 0 rfl) ?_
  refine lv_aload_n S.1 S.2.1 dX1_advance_1 rfl (lv_at hl 1 rfl) ?_
  refine lv_iload_n S.1 S.2.1 dX1_advance_2 rfl (lv_at hl 2 rfl) ?_
  refine lv_iload_n S.1 S.2.1 dX1_advance_3 rfl (lv_at hl 3 rfl) ?_
  refine lv_iload S.1 S.2.1 dX1_advance_4 (lv_at hl 4 rfl) ?_
  refine cv_callv (ci := 1) (C := RX1) (T := TX1) (N := 4) S K h hl.1 rfl rfl rfl (c_makeBlock l E σ kf hkd hln h6 h7 x y z) (cwV 4 S.2.2.2.2 gX1_advance_X1_makeBlock rfl rfl rfl (by decide +kernel) ⟨Nat.le_of_ble_eq_true rfl, Nat.le_of_ble_eq_true rfl⟩) rfl rfl (Nat.le_of_ble_eq_true rfl) ⟨Nat.zero_le _, Nat.zero_le _⟩ dX1_advance_6 (fun σ21 H locs hq h => ?_)
  refine lv_aload_n S.1 S.2.1 dX1_advance_9 rfl (lv_at hl 0 rfl) ?_
  refine cv_gf (ci := 1) (C := RX1) (T := TX1) (N := 4) (v := .ref (E.2.1 7)) S K h 3 rfl hinX1 rfl rfl 3 (by decide) hf_19 rfl rfl dX1_advance_10 ?_
  refine lv_iconst (v := 0) S.1 S.2.1 dX1_advance_13 (by decide) ?_
  refine lv_aload_n S.1 S.2.1 dX1_advance_14 rfl (lv_at hl 1 rfl) ?_
  refine lv_iconst (v := 0) S.1 S.2.1 dX1_advance_15 (by decide) ?_
  refine lv_iconst (v := 4) S.1 S.2.1 dX1_advance_16 (by decide) ?_
  refine cv_copy S K h hl.1 (S.2.2.2.2 (.methodLink RX1 26 arraycopyName) (by decide +kernel)) (S.2.2.2.2 (.native arraycopyName) (by decide +kernel)) (S.2.2.2.2 (.static arraycopyName) (by decide +kernel)) (S.2.2.2.2 (.initialized "java/lang/System") (by decide +kernel)) 7 kf rfl hkd (n0 := 16) rfl hln 0 0 4 rfl rfl rfl (by decide) (by decide) (Nat.le_of_ble_eq_true rfl) (Nat.le_of_ble_eq_true rfl) dX1_advance_17 (fun σ22 H locs eσ22 h => ?_)
  refine cv_vret S hr hlk hsz h ?_ dX1_advance_20
  subst eσ22
  refine ⟨(hq.1.mono (by intro k hk; simp at hk ⊢; omega)).trans (cv_fr.up (by simp)), fun i hi => ?_⟩
  rw [cv_I1, if_pos rfl, pk_cpy_in (Nat.zero_le _) (by omega), Nat.zero_add, Nat.sub_zero]
  exact hq.2 i (by omega)

set_option maxHeartbeats 4000000 in
set_option maxRecDepth 100000 in
/-- the key of a password -/
theorem c_setKey (l : Launch) (E : cv_E) (σ : cv_S) (pw : Int64) (sa : Int32) (rd : Nat) (hrd : rd ≤ 40) : cv_Mv l E yX1_setKey wsX1_setKey (cv_R 4) [.ref (E.2.1 3), .long pw, .int sa, .int (nI rd)] σ (fun τ => cv_fr [4, 6, 7] σ τ ∧ pu_eq 4 (τ.1 4) (pu_key pw sa rd)) := by
  intro sz
  refine cv_in (ws := wsX1_setKey) (cc := cX1_setKey) (maxL := 6) (ret := none) (own := RX1) rfl (by decide) rfl (Nat.le_of_ble_eq_true rfl) ?_
  intro p e s m below meth c S K hr hlk hsz h ls hl
  have hl : lv_has ls 6 [(0, .ref (E.2.1 3)), (1, .long pw), (3, .int sa), (4, .int (nI rd))] := hl
  have hinX1 : ∀ w ∈ u_ws RX1 TX1 4, w ∈ wsX1_setKey := by decide +kernel
  have hf_9 := S.2.2.2.2 (.fieldLink RX1 9 "CrashVault$Cipher" "key" "[I") (by decide +kernel)
  refine lv_aload_n S.1 S.2.1 dX1_setKey_0 rfl (lv_at hl 0 rfl) ?_
  refine cv_gf (ci := 1) (C := RX1) (T := TX1) (N := 4) (v := .ref (E.2.1 4)) S K h 3 rfl hinX1 rfl rfl 0 (by decide) hf_9 rfl rfl dX1_setKey_1 ?_
  refine lv_iconst (v := 0) S.1 S.2.1 dX1_setKey_4 (by decide) ?_
  refine lv_lload_n S.1 S.2.1 dX1_setKey_5 rfl (lv_at hl 1 rfl) ?_
  refine lv_l2i (v := (pw : Int64).toInt32) S.1 S.2.1 dX1_setKey_6 rfl ?_
  refine lv_topi (fun k0 ek0 => ?_)
  refine cv_iast (x := k0) S K h 4 rfl (n := 4) rfl 0 rfl (by decide) dX1_setKey_7 (fun σ23 H locs eσ23 h => ?_)
  refine lv_aload_n S.1 S.2.1 dX1_setKey_8 rfl (lv_at hl 0 rfl) ?_
  refine cv_gf (ci := 1) (C := RX1) (T := TX1) (N := 4) (v := .ref (E.2.1 4)) S K h 3 rfl hinX1 rfl rfl 0 (by decide) hf_9 rfl rfl dX1_setKey_9 ?_
  refine lv_iconst (v := 1) S.1 S.2.1 dX1_setKey_12 (by decide) ?_
  refine lv_lload_n S.1 S.2.1 dX1_setKey_13 rfl (lv_at hl 1 rfl) ?_
  refine lv_bipush (v := 32) S.1 S.2.1 dX1_setKey_14 (by decide) ?_
  refine lv_lushr (v := (pw.toUInt64 >>> ((32 : Int32).toInt64.toUInt64 &&& Int64.toUInt64 63)).toInt64) S.1 S.2.1 dX1_setKey_16 rfl ?_
  refine lv_l2i (v := (((pw.toUInt64 >>> ((32 : Int32).toInt64.toUInt64 &&& Int64.toUInt64 63)).toInt64) : Int64).toInt32) S.1 S.2.1 dX1_setKey_17 rfl ?_
  refine lv_topi (fun k1 ek1 => ?_)
  refine cv_iast (x := k1) S K h 4 rfl (n := 4) rfl 1 rfl (by decide) dX1_setKey_18 (fun σ24 H locs eσ24 h => ?_)
  refine lv_aload_n S.1 S.2.1 dX1_setKey_19 rfl (lv_at hl 0 rfl) ?_
  refine cv_gf (ci := 1) (C := RX1) (T := TX1) (N := 4) (v := .ref (E.2.1 4)) S K h 3 rfl hinX1 rfl rfl 0 (by decide) hf_9 rfl rfl dX1_setKey_20 ?_
  refine lv_iconst (v := 2) S.1 S.2.1 dX1_setKey_23 (by decide) ?_
  refine lv_iload_n S.1 S.2.1 dX1_setKey_24 rfl (lv_at hl 2 rfl) ?_
  refine cv_iast (x := sa) S K h 4 rfl (n := 4) rfl 2 rfl (by decide) dX1_setKey_25 (fun σ25 H locs eσ25 h => ?_)
  refine lv_aload_n S.1 S.2.1 dX1_setKey_26 rfl (lv_at hl 0 rfl) ?_
  refine cv_gf (ci := 1) (C := RX1) (T := TX1) (N := 4) (v := .ref (E.2.1 4)) S K h 3 rfl hinX1 rfl rfl 0 (by decide) hf_9 rfl rfl dX1_setKey_27 ?_
  refine lv_iconst (v := 3) S.1 S.2.1 dX1_setKey_30 (by decide) ?_
  refine lv_iconst (v := 0) S.1 S.2.1 dX1_setKey_31 (by decide) ?_
  refine cv_iast (x := 0) S K h 4 rfl (n := 4) rfl 3 rfl (by decide) dX1_setKey_32 (fun σ26 H locs eσ26 h => ?_)
  refine lv_aload_n S.1 S.2.1 dX1_setKey_33 rfl (lv_at hl 0 rfl) ?_
  refine lv_aload_n S.1 S.2.1 dX1_setKey_34 rfl (lv_at hl 0 rfl) ?_
  refine cv_gf (ci := 1) (C := RX1) (T := TX1) (N := 4) (v := .ref (E.2.1 4)) S K h 3 rfl hinX1 rfl rfl 0 (by decide) hf_9 rfl rfl dX1_setKey_35 ?_
  refine lv_iconst (v := 0) S.1 S.2.1 dX1_setKey_38 (by decide) ?_
  refine lv_iconst (v := (-1)) S.1 S.2.1 dX1_setKey_39 (by decide) ?_
  refine lv_iconst (v := 1) S.1 S.2.1 dX1_setKey_40 (by decide) ?_
  refine cv_callv (ci := 1) (C := RX1) (T := TX1) (N := 4) S K h hl.1 rfl rfl rfl (c_advance l E σ26 4 rfl rfl (by decide) (by decide) 0 (-1) 1) (cwV 4 S.2.2.2.2 gX1_setKey_X1_advance rfl rfl rfl (by decide +kernel) ⟨Nat.le_of_ble_eq_true rfl, Nat.le_of_ble_eq_true rfl⟩) rfl rfl (Nat.le_of_ble_eq_true rfl) ⟨Nat.zero_le _, Nat.zero_le _⟩ dX1_setKey_41 (fun σ27 H locs hq h => ?_)
  have hst : cv_fr [4, 6, 7] σ σ27 ∧ pu_eq 4 (σ27.1 4) (pu_key pw sa 0) := by
    have hk : cv_fr [4, 6, 7] σ σ26 ∧ pu_eq 4 (σ26.1 4) (pu_k0 pw sa) := by
      subst eσ26 eσ25 eσ24 eσ23
      refine ⟨⟨fun k hk => ?_, rfl⟩, fun i hi => ?_⟩
      · have hk4 : k ≠ 4 := fun q => hk (by rw [q]; decide)
        simp only [cv_I1, if_neg hk4]
      · rcases (show i = 0 ∨ i = 1 ∨ i = 2 ∨ i = 3 by omega) with rfl | rfl | rfl | rfl <;> simp [cv_I1, upd, pu_k0, ek0, ek1]
    refine ⟨hk.1.trans (hq.1.mono (by decide)), ?_⟩
    have := hq.2
    rw [pu_blk_eq hk.2] at this
    exact this
  refine lv_iconst (v := 0) S.1 S.2.1 dX1_setKey_44 (by decide) ?_
  refine lv_istore (lv' := [(5, .int 0), (0, .ref (E.2.1 3)), (1, .long pw), (3, .int sa), (4, .int (nI rd))]) S.1 S.2.1 dX1_setKey_45 hl (by decide) rfl (fun ls hl => ?_)
  refine cv_loop (α := Unit) (nL := 6) rd (fun i a τ => cv_fr [4, 6, 7] σ τ ∧ pu_eq 4 (τ.1 4) (pu_key pw sa i)) (fun i a => [(5, .int (nI i)), (0, .ref (E.2.1 3)), (1, .long pw), (3, .int sa), (4, .int (nI rd))]) ?_ ?_ 0 () σ27 _ _ _ (by omega) (hst) h hl
  · intro i a τ H locs ls hi hI h hl ih
    have hl : lv_has ls 6 [(5, .int (nI i)), (0, .ref (E.2.1 3)), (1, .long pw), (3, .int sa), (4, .int (nI rd))] := hl
    refine lv_iload S.1 S.2.1 dX1_setKey_47 (lv_at hl 0 rfl) ?_
    refine lv_iload S.1 S.2.1 dX1_setKey_49 (lv_at hl 4 rfl) ?_
    refine lv_icmp_ge (tgt := 72) S.1 S.2.1 dX1_setKey_51 (by decide) (fun c1 => ?_) (fun c1 => ?_)
    · exact absurd c1 (nI_ge hi (by omega))
    · refine lv_aload_n S.1 S.2.1 dX1_setKey_54 rfl (lv_at hl 1 rfl) ?_
      refine lv_aload_n S.1 S.2.1 dX1_setKey_55 rfl (lv_at hl 1 rfl) ?_
      refine cv_gf (ci := 1) (C := RX1) (T := TX1) (N := 4) (v := .ref (E.2.1 4)) S K h 3 rfl hinX1 rfl rfl 0 (by decide) hf_9 rfl rfl dX1_setKey_56 ?_
      refine lv_iload S.1 S.2.1 dX1_setKey_59 (lv_at hl 0 rfl) ?_
      refine lv_iconst (v := 0) S.1 S.2.1 dX1_setKey_61 (by decide) ?_
      refine lv_iconst (v := 2) S.1 S.2.1 dX1_setKey_62 (by decide) ?_
      refine cv_callv (ci := 1) (C := RX1) (T := TX1) (N := 4) S K h hl.1 rfl rfl rfl (c_advance l E τ 4 rfl rfl (by decide) (by decide) (nI i) 0 2) (cwV 4 S.2.2.2.2 gX1_setKey_X1_advance rfl rfl rfl (by decide +kernel) ⟨Nat.le_of_ble_eq_true rfl, Nat.le_of_ble_eq_true rfl⟩) rfl rfl (Nat.le_of_ble_eq_true rfl) ⟨Nat.zero_le _, Nat.zero_le _⟩ dX1_setKey_63 (fun σ28 H locs hq2 h => ?_)
      obtain ⟨z5, ez5⟩ : ∃ y : Int32, y = ((nI i)) + 1 := ⟨_, rfl⟩
      refine lv_iinc (v := z5) (lv' := [(5, .int z5), (0, .ref (E.2.1 3)), (1, .long pw), (3, .int sa), (4, .int (nI rd))]) S.1 S.2.1 dX1_setKey_66 hl (k := 0) rfl (by rw [ez5]; rfl) (by decide) rfl (fun ls hl => ?_)
      refine lv_goto (tgt := 47) S.1 S.2.1 dX1_setKey_69 (by decide) ?_
      rw [ez5, nI_1] at hl
      refine ih () σ28 H locs ls ⟨hI.1.trans (hq2.1.mono (by decide)), ?_⟩ h hl
      have := hq2.2
      rw [pu_blk_eq hI.2] at this
      exact this
  · intro a τ H locs ls hI h hl
    have hl : lv_has ls 6 [(5, .int (nI rd)), (0, .ref (E.2.1 3)), (1, .long pw), (3, .int sa), (4, .int (nI rd))] := hl
    refine lv_iload S.1 S.2.1 dX1_setKey_47 (lv_at hl 0 rfl) ?_
    refine lv_iload S.1 S.2.1 dX1_setKey_49 (lv_at hl 4 rfl) ?_
    refine lv_icmp_ge (tgt := 72) S.1 S.2.1 dX1_setKey_51 (by decide) (fun c1 => ?_) (fun c1 => ?_)
    · exact cv_vret S hr hlk hsz h hI dX1_setKey_72
    · exact absurd (Int32.le_refl _) c1
