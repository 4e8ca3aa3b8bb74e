/-! 28: the reference: turned, stir, block -/
def pu_h1p (f : Nat → Int32) : Nat → Nat → Int32
  | 0 => f
  | i + 1 => pu_stir (pu_h1p f i) i (4 + i) (8 + i) (12 + i)
def pu_h2p (f : Nat → Int32) : Nat → Nat → Int32
  | 0 => f
  | i + 1 => pu_stir (pu_h2p f i) i (4 + (i + 1) % 4) (8 + (i + 2) % 4) (12 + (i + 3) % 4)
theorem pu_h1p_4 (f : Nat → Int32) : pu_h1p f 4 = pu_h1 f := rfl
theorem pu_h2p_4 (f : Nat → Int32) : pu_h2p f 4 = pu_h2 f := rfl

set_option maxHeartbeats 4000000 in
set_option maxRecDepth 100000 in
theorem m_turned (l : Launch) (E : cv_E) (σ : cv_S) (x b : Int32) : cv_Mi l E yX6_turned wsX6_turned (cv_R 1) [.int x, .int b] σ (fun r τ => r = pu_rot x b (32 - b) ∧ τ = σ) := by
  intro sz
  refine cv_in (ws := wsX6_turned) (cc := cX6_turned) (maxL := 2) (ret := (some .int)) (own := RX6) rfl (by decide) rfl (Nat.le_of_ble_eq_true rfl) ?_
  intro p e s m below meth c S K hr hlk hsz h ls hl
  have hl : lv_has ls 2 [(0, .int x), (1, .int b)] := hl
  refine lv_iload_n S.1 S.2.1 dX6_turned_0 rfl (lv_at hl 0 rfl) ?_
  refine lv_iload_n S.1 S.2.1 dX6_turned_1 rfl (lv_at hl 1 rfl) ?_
  refine lv_ishl S.1 S.2.1 dX6_turned_2 ?_
  refine lv_iload_n S.1 S.2.1 dX6_turned_3 rfl (lv_at hl 0 rfl) ?_
  refine lv_bipush (v := 32) S.1 S.2.1 dX6_turned_4 (by decide) ?_
  refine lv_iload_n S.1 S.2.1 dX6_turned_6 rfl (lv_at hl 1 rfl) ?_
  refine lv_isub S.1 S.2.1 dX6_turned_7 ?_
  refine lv_iushr (v := (x.toUInt32 >>> (((32 - b) : Int32).toUInt32 &&& Int32.toUInt32 31)).toInt32) S.1 S.2.1 dX6_turned_8 rfl ?_
  refine lv_ior S.1 S.2.1 dX6_turned_9 ?_
  exact cv_iret S hr hlk hsz h ⟨rfl, rfl⟩ dX6_turned_10

set_option maxHeartbeats 4000000 in
set_option maxRecDepth 100000 in
/-- the state is stirred at four places -/
theorem m_stir (l : Launch) (E : cv_E) (σ : cv_S) (i1 i2 i3 i4 : Nat) (h1 : i1 < 16) (h2 : i2 < 16) (h3 : i3 < 16) (h4 : i4 < 16) (n12 : i1 ≠ i2) (n13 : i1 ≠ i3) (n14 : i1 ≠ i4) (n23 : i2 ≠ i3) (n24 : i2 ≠ i4) (n34 : i3 ≠ i4) : cv_Mv l E yX6_stir wsX6_stir (cv_R 2) [.ref (E.2.1 49), .int (nI i1), .int (nI i2), .int (nI i3), .int (nI i4)] σ (fun τ => τ = cv_uI σ 54 (pu_stir (σ.1 54) i1 i2 i3 i4)) := by
  intro sz
  refine cv_in (ws := wsX6_stir) (cc := cX6_stir) (maxL := 5) (ret := none) (own := RX6) rfl (by decide) rfl (Nat.le_of_ble_eq_true rfl) ?_
  intro p e s m below meth c S K hr hlk hsz h ls hl
  have hl : lv_has ls 5 [(0, .ref (E.2.1 49)), (1, .int (nI i1)), (2, .int (nI i2)), (3, .int (nI i3)), (4, .int (nI i4))] := hl
  have hinX6 : ∀ w ∈ u_ws RX6 TX6 18, w ∈ wsX6_stir := by decide +kernel
  have hf_23 := S.2.2.2.2 (.fieldLink RX6 23 "CrashVaultModel" "state" "[I") (by decide +kernel)
  refine lv_aload_n S.1 S.2.1 dX6_stir_0 rfl (lv_at hl 0 rfl) ?_
  refine cv_gf (ci := 6) (C := RX6) (T := TX6) (N := 18) (v := .ref (E.2.1 54)) S K h 49 rfl hinX6 rfl rfl 12 (by decide) hf_23 rfl rfl dX6_stir_1 ?_
  refine lv_iload_n S.1 S.2.1 dX6_stir_4 rfl (lv_at hl 1 rfl) ?_
  refine lv_aload_n S.1 S.2.1 dX6_stir_5 rfl (lv_at hl 0 rfl) ?_
  refine cv_gf (ci := 6) (C := RX6) (T := TX6) (N := 18) (v := .ref (E.2.1 54)) S K h 49 rfl hinX6 rfl rfl 12 (by decide) hf_23 rfl rfl dX6_stir_6 ?_
  refine lv_iload_n S.1 S.2.1 dX6_stir_9 rfl (lv_at hl 1 rfl) ?_
  refine cv_iald S K h 54 rfl (n := 16) rfl i1 rfl h1 dX6_stir_10 ?_
  refine lv_aload_n S.1 S.2.1 dX6_stir_11 rfl (lv_at hl 0 rfl) ?_
  refine cv_gf (ci := 6) (C := RX6) (T := TX6) (N := 18) (v := .ref (E.2.1 54)) S K h 49 rfl hinX6 rfl rfl 12 (by decide) hf_23 rfl rfl dX6_stir_12 ?_
  refine lv_iload_n S.1 S.2.1 dX6_stir_15 rfl (lv_at hl 2 rfl) ?_
  refine cv_iald S K h 54 rfl (n := 16) rfl i2 rfl h2 dX6_stir_16 ?_
  refine lv_iadd S.1 S.2.1 dX6_stir_17 ?_
  refine lv_topi (fun x1 ex1 => ?_)
  refine cv_iast (x := x1) S K h 54 rfl (n := 16) rfl i1 rfl h1 dX6_stir_18 (fun σ1 H locs eσ1 h => ?_)
  refine lv_aload_n S.1 S.2.1 dX6_stir_19 rfl (lv_at hl 0 rfl) ?_
  refine cv_gf (ci := 6) (C := RX6) (T := TX6) (N := 18) (v := .ref (E.2.1 54)) S K h 49 rfl hinX6 rfl rfl 12 (by decide) hf_23 rfl rfl dX6_stir_20 ?_
  refine lv_iload S.1 S.2.1 dX6_stir_23 (lv_at hl 4 rfl) ?_
  refine lv_aload_n S.1 S.2.1 dX6_stir_25 rfl (lv_at hl 0 rfl) ?_
  refine cv_gf (ci := 6) (C := RX6) (T := TX6) (N := 18) (v := .ref (E.2.1 54)) S K h 49 rfl hinX6 rfl rfl 12 (by decide) hf_23 rfl rfl dX6_stir_26 ?_
  refine lv_iload S.1 S.2.1 dX6_stir_29 (lv_at hl 4 rfl) ?_
  refine cv_iald S K h 54 rfl (n := 16) rfl i4 rfl h4 dX6_stir_31 ?_
  refine lv_aload_n S.1 S.2.1 dX6_stir_32 rfl (lv_at hl 0 rfl) ?_
  refine cv_gf (ci := 6) (C := RX6) (T := TX6) (N := 18) (v := .ref (E.2.1 54)) S K h 49 rfl hinX6 rfl rfl 12 (by decide) hf_23 rfl rfl dX6_stir_33 ?_
  refine lv_iload_n S.1 S.2.1 dX6_stir_36 rfl (lv_at hl 1 rfl) ?_
  refine cv_iald S K h 54 rfl (n := 16) rfl i1 rfl h1 dX6_stir_37 ?_
  refine lv_ixor S.1 S.2.1 dX6_stir_38 ?_
  refine lv_bipush (v := 16) S.1 S.2.1 dX6_stir_39 (by decide) ?_
  refine cv_callsi S K h hl.1 (m_turned l E σ1 ((((σ1.1 54 i4)) ^^^ ((σ1.1 54 i1)))) 16) (va_cwS 2 S.2.2.2.2 gX6_stir_X6_turned rfl rfl rfl (by decide +kernel) ⟨Nat.le_of_ble_eq_true rfl, Nat.le_of_ble_eq_true rfl⟩) rfl rfl (Nat.le_of_ble_eq_true rfl) ⟨Nat.zero_le _, Nat.zero_le _⟩ dX6_stir_41 (fun r2 σ2 H locs ⟨hr2, hs9⟩ h => ?_)
  rw [hs9] at h
  refine cv_iast (x := r2) S K h 54 rfl (n := 16) rfl i4 rfl h4 dX6_stir_44 (fun σ3 H locs eσ3 h => ?_)
  refine lv_aload_n S.1 S.2.1 dX6_stir_45 rfl (lv_at hl 0 rfl) ?_
  refine cv_gf (ci := 6) (C := RX6) (T := TX6) (N := 18) (v := .ref (E.2.1 54)) S K h 49 rfl hinX6 rfl rfl 12 (by decide) hf_23 rfl rfl dX6_stir_46 ?_
  refine lv_iload_n S.1 S.2.1 dX6_stir_49 rfl (lv_at hl 3 rfl) ?_
  refine lv_aload_n S.1 S.2.1 dX6_stir_50 rfl (lv_at hl 0 rfl) ?_
  refine cv_gf (ci := 6) (C := RX6) (T := TX6) (N := 18) (v := .ref (E.2.1 54)) S K h 49 rfl hinX6 rfl rfl 12 (by decide) hf_23 rfl rfl dX6_stir_51 ?_
  refine lv_iload_n S.1 S.2.1 dX6_stir_54 rfl (lv_at hl 3 rfl) ?_
  refine cv_iald S K h 54 rfl (n := 16) rfl i3 rfl h3 dX6_stir_55 ?_
  refine lv_aload_n S.1 S.2.1 dX6_stir_56 rfl (lv_at hl 0 rfl) ?_
  refine cv_gf (ci := 6) (C := RX6) (T := TX6) (N := 18) (v := .ref (E.2.1 54)) S K h 49 rfl hinX6 rfl rfl 12 (by decide) hf_23 rfl rfl dX6_stir_57 ?_
  refine lv_iload S.1 S.2.1 dX6_stir_60 (lv_at hl 4 rfl) ?_
  refine cv_iald S K h 54 rfl (n := 16) rfl i4 rfl h4 dX6_stir_62 ?_
  refine lv_iadd S.1 S.2.1 dX6_stir_63 ?_
  refine lv_topi (fun x3 ex3 => ?_)
  refine cv_iast (x := x3) S K h 54 rfl (n := 16) rfl i3 rfl h3 dX6_stir_64 (fun σ4 H locs eσ4 h => ?_)
  refine lv_aload_n S.1 S.2.1 dX6_stir_65 rfl (lv_at hl 0 rfl) ?_
  refine cv_gf (ci := 6) (C := RX6) (T := TX6) (N := 18) (v := .ref (E.2.1 54)) S K h 49 rfl hinX6 rfl rfl 12 (by decide) hf_23 rfl rfl dX6_stir_66 ?_
  refine lv_iload_n S.1 S.2.1 dX6_stir_69 rfl (lv_at hl 2 rfl) ?_
  refine lv_aload_n S.1 S.2.1 dX6_stir_70 rfl (lv_at hl 0 rfl) ?_
  refine cv_gf (ci := 6) (C := RX6) (T := TX6) (N := 18) (v := .ref (E.2.1 54)) S K h 49 rfl hinX6 rfl rfl 12 (by decide) hf_23 rfl rfl dX6_stir_71 ?_
  refine lv_iload_n S.1 S.2.1 dX6_stir_74 rfl (lv_at hl 2 rfl) ?_
  refine cv_iald S K h 54 rfl (n := 16) rfl i2 rfl h2 dX6_stir_75 ?_
  refine lv_aload_n S.1 S.2.1 dX6_stir_76 rfl (lv_at hl 0 rfl) ?_
  refine cv_gf (ci := 6) (C := RX6) (T := TX6) (N := 18) (v := .ref (E.2.1 54)) S K h 49 rfl hinX6 rfl rfl 12 (by decide) hf_23 rfl rfl dX6_stir_77 ?_
  refine lv_iload_n S.1 S.2.1 dX6_stir_80 rfl (lv_at hl 3 rfl) ?_
  refine cv_iald S K h 54 rfl (n := 16) rfl i3 rfl h3 dX6_stir_81 ?_
  refine lv_ixor S.1 S.2.1 dX6_stir_82 ?_
  refine lv_bipush (v := 12) S.1 S.2.1 dX6_stir_83 (by decide) ?_
  refine cv_callsi S K h hl.1 (m_turned l E σ4 ((((σ4.1 54 i2)) ^^^ ((σ4.1 54 i3)))) 12) (va_cwS 2 S.2.2.2.2 gX6_stir_X6_turned rfl rfl rfl (by decide +kernel) ⟨Nat.le_of_ble_eq_true rfl, Nat.le_of_ble_eq_true rfl⟩) rfl rfl (Nat.le_of_ble_eq_true rfl) ⟨Nat.zero_le _, Nat.zero_le _⟩ dX6_stir_85 (fun r4 σ5 H locs ⟨hr4, hs9⟩ h => ?_)
  rw [hs9] at h
  refine cv_iast (x := r4) S K h 54 rfl (n := 16) rfl i2 rfl h2 dX6_stir_88 (fun σ6 H locs eσ6 h => ?_)
  refine lv_aload_n S.1 S.2.1 dX6_stir_89 rfl (lv_at hl 0 rfl) ?_
  refine cv_gf (ci := 6) (C := RX6) (T := TX6) (N := 18) (v := .ref (E.2.1 54)) S K h 49 rfl hinX6 rfl rfl 12 (by decide) hf_23 rfl rfl dX6_stir_90 ?_
  refine lv_iload_n S.1 S.2.1 dX6_stir_93 rfl (lv_at hl 1 rfl) ?_
  refine lv_aload_n S.1 S.2.1 dX6_stir_94 rfl (lv_at hl 0 rfl) ?_
  refine cv_gf (ci := 6) (C := RX6) (T := TX6) (N := 18) (v := .ref (E.2.1 54)) S K h 49 rfl hinX6 rfl rfl 12 (by decide) hf_23 rfl rfl dX6_stir_95 ?_
  refine lv_iload_n S.1 S.2.1 dX6_stir_98 rfl (lv_at hl 1 rfl) ?_
  refine cv_iald S K h 54 rfl (n := 16) rfl i1 rfl h1 dX6_stir_99 ?_
  refine lv_aload_n S.1 S.2.1 dX6_stir_100 rfl (lv_at hl 0 rfl) ?_
  refine cv_gf (ci := 6) (C := RX6) (T := TX6) (N := 18) (v := .ref (E.2.1 54)) S K h 49 rfl hinX6 rfl rfl 12 (by decide) hf_23 rfl rfl dX6_stir_101 ?_
  refine lv_iload_n S.1 S.2.1 dX6_stir_104 rfl (lv_at hl 2 rfl) ?_
  refine cv_iald S K h 54 rfl (n := 16) rfl i2 rfl h2 dX6_stir_105 ?_
  refine lv_iadd S.1 S.2.1 dX6_stir_106 ?_
  refine lv_topi (fun x5 ex5 => ?_)
  refine cv_iast (x := x5) S K h 54 rfl (n := 16) rfl i1 rfl h1 dX6_stir_107 (fun σ7 H locs eσ7 h => ?_)
  refine lv_aload_n S.1 S.2.1 dX6_stir_108 rfl (lv_at hl 0 rfl) ?_
  refine cv_gf (ci := 6) (C := RX6) (T := TX6) (N := 18) (v := .ref (E.2.1 54)) S K h 49 rfl hinX6 rfl rfl 12 (by decide) hf_23 rfl rfl dX6_stir_109 ?_
  refine lv_iload S.1 S.2.1 dX6_stir_112 (lv_at hl 4 rfl) ?_
  refine lv_aload_n S.1 S.2.1 dX6_stir_114 rfl (lv_at hl 0 rfl) ?_
  refine cv_gf (ci := 6) (C := RX6) (T := TX6) (N := 18) (v := .ref (E.2.1 54)) S K h 49 rfl hinX6 rfl rfl 12 (by decide) hf_23 rfl rfl dX6_stir_115 ?_
  refine lv_iload S.1 S.2.1 dX6_stir_118 (lv_at hl 4 rfl) ?_
  refine cv_iald S K h 54 rfl (n := 16) rfl i4 rfl h4 dX6_stir_120 ?_
  refine lv_aload_n S.1 S.2.1 dX6_stir_121 rfl (lv_at hl 0 rfl) ?_
  refine cv_gf (ci := 6) (C := RX6) (T := TX6) (N := 18) (v := .ref (E.2.1 54)) S K h 49 rfl hinX6 rfl rfl 12 (by decide) hf_23 rfl rfl dX6_stir_122 ?_
  refine lv_iload_n S.1 S.2.1 dX6_stir_125 rfl (lv_at hl 1 rfl) ?_
  refine cv_iald S K h 54 rfl (n := 16) rfl i1 rfl h1 dX6_stir_126 ?_
  refine lv_ixor S.1 S.2.1 dX6_stir_127 ?_
  refine lv_bipush (v := 8) S.1 S.2.1 dX6_stir_128 (by decide) ?_
  refine cv_callsi S K h hl.1 (m_turned l E σ7 ((((σ7.1 54 i4)) ^^^ ((σ7.1 54 i1)))) 8) (va_cwS 2 S.2.2.2.2 gX6_stir_X6_turned rfl rfl rfl (by decide +kernel) ⟨Nat.le_of_ble_eq_true rfl, Nat.le_of_ble_eq_true rfl⟩) rfl rfl (Nat.le_of_ble_eq_true rfl) ⟨Nat.zero_le _, Nat.zero_le _⟩ dX6_stir_130 (fun r6 σ8 H locs ⟨hr6, hs9⟩ h => ?_)
  rw [hs9] at h
  refine cv_iast (x := r6) S K h 54 rfl (n := 16) rfl i4 rfl h4 dX6_stir_133 (fun σ9 H locs eσ9 h => ?_)
  refine lv_aload_n S.1 S.2.1 dX6_stir_134 rfl (lv_at hl 0 rfl) ?_
  refine cv_gf (ci := 6) (C := RX6) (T := TX6) (N := 18) (v := .ref (E.2.1 54)) S K h 49 rfl hinX6 rfl rfl 12 (by decide) hf_23 rfl rfl dX6_stir_135 ?_
  refine lv_iload_n S.1 S.2.1 dX6_stir_138 rfl (lv_at hl 3 rfl) ?_
  refine lv_aload_n S.1 S.2.1 dX6_stir_139 rfl (lv_at hl 0 rfl) ?_
  refine cv_gf (ci := 6) (C := RX6) (T := TX6) (N := 18) (v := .ref (E.2.1 54)) S K h 49 rfl hinX6 rfl rfl 12 (by decide) hf_23 rfl rfl dX6_stir_140 ?_
  refine lv_iload_n S.1 S.2.1 dX6_stir_143 rfl (lv_at hl 3 rfl) ?_
  refine cv_iald S K h 54 rfl (n := 16) rfl i3 rfl h3 dX6_stir_144 ?_
  refine lv_aload_n S.1 S.2.1 dX6_stir_145 rfl (lv_at hl 0 rfl) ?_
  refine cv_gf (ci := 6) (C := RX6) (T := TX6) (N := 18) (v := .ref (E.2.1 54)) S K h 49 rfl hinX6 rfl rfl 12 (by decide) hf_23 rfl rfl dX6_stir_146 ?_
  refine lv_iload S.1 S.2.1 dX6_stir_149 (lv_at hl 4 rfl) ?_
  refine cv_iald S K h 54 rfl (n := 16) rfl i4 rfl h4 dX6_stir_151 ?_
  refine lv_iadd S.1 S.2.1 dX6_stir_152 ?_
  refine lv_topi (fun x7 ex7 => ?_)
  refine cv_iast (x := x7) S K h 54 rfl (n := 16) rfl i3 rfl h3 dX6_stir_153 (fun σ10 H locs eσ10 h => ?_)
  refine lv_aload_n S.1 S.2.1 dX6_stir_154 rfl (lv_at hl 0 rfl) ?_
  refine cv_gf (ci := 6) (C := RX6) (T := TX6) (N := 18) (v := .ref (E.2.1 54)) S K h 49 rfl hinX6 rfl rfl 12 (by decide) hf_23 rfl rfl dX6_stir_155 ?_
  refine lv_iload_n S.1 S.2.1 dX6_stir_158 rfl (lv_at hl 2 rfl) ?_
  refine lv_aload_n S.1 S.2.1 dX6_stir_159 rfl (lv_at hl 0 rfl) ?_
  refine cv_gf (ci := 6) (C := RX6) (T := TX6) (N := 18) (v := .ref (E.2.1 54)) S K h 49 rfl hinX6 rfl rfl 12 (by decide) hf_23 rfl rfl dX6_stir_160 ?_
  refine lv_iload_n S.1 S.2.1 dX6_stir_163 rfl (lv_at hl 2 rfl) ?_
  refine cv_iald S K h 54 rfl (n := 16) rfl i2 rfl h2 dX6_stir_164 ?_
  refine lv_aload_n S.1 S.2.1 dX6_stir_165 rfl (lv_at hl 0 rfl) ?_
  refine cv_gf (ci := 6) (C := RX6) (T := TX6) (N := 18) (v := .ref (E.2.1 54)) S K h 49 rfl hinX6 rfl rfl 12 (by decide) hf_23 rfl rfl dX6_stir_166 ?_
  refine lv_iload_n S.1 S.2.1 dX6_stir_169 rfl (lv_at hl 3 rfl) ?_
  refine cv_iald S K h 54 rfl (n := 16) rfl i3 rfl h3 dX6_stir_170 ?_
  refine lv_ixor S.1 S.2.1 dX6_stir_171 ?_
  refine lv_bipush (v := 7) S.1 S.2.1 dX6_stir_172 (by decide) ?_
  refine cv_callsi S K h hl.1 (m_turned l E σ10 ((((σ10.1 54 i2)) ^^^ ((σ10.1 54 i3)))) 7) (va_cwS 2 S.2.2.2.2 gX6_stir_X6_turned rfl rfl rfl (by decide +kernel) ⟨Nat.le_of_ble_eq_true rfl, Nat.le_of_ble_eq_true rfl⟩) rfl rfl (Nat.le_of_ble_eq_true rfl) ⟨Nat.zero_le _, Nat.zero_le _⟩ dX6_stir_174 (fun r8 σ11 H locs ⟨hr8, hs9⟩ h => ?_)
  rw [hs9] at h
  refine cv_iast (x := r8) S K h 54 rfl (n := 16) rfl i2 rfl h2 dX6_stir_177 (fun σ12 H locs eσ12 h => ?_)
  have G1 : σ1.1 54 = upd (σ.1 54) i1 x1 := by rw [eσ1, cv_I1, if_pos rfl]
  have G2 : σ3.1 54 = upd (σ1.1 54) i4 r2 := by rw [eσ3, cv_I1, if_pos rfl]
  have G3 : σ4.1 54 = upd (σ3.1 54) i3 x3 := by rw [eσ4, cv_I1, if_pos rfl]
  have G4 : σ6.1 54 = upd (σ4.1 54) i2 r4 := by rw [eσ6, cv_I1, if_pos rfl]
  have G5 : σ7.1 54 = upd (σ6.1 54) i1 x5 := by rw [eσ7, cv_I1, if_pos rfl]
  have G6 : σ9.1 54 = upd (σ7.1 54) i4 r6 := by rw [eσ9, cv_I1, if_pos rfl]
  have G7 : σ10.1 54 = upd (σ9.1 54) i3 x7 := by rw [eσ10, cv_I1, if_pos rfl]
  have G8 : σ12.1 54 = upd (σ10.1 54) i2 r8 := by rw [eσ12, cv_I1, if_pos rfl]
  have v1 : x1 = pu_a1 (σ.1 54 i1) (σ.1 54 i2) := ex1
  have v2 : r2 = pu_d1 (σ.1 54 i1) (σ.1 54 i2) (σ.1 54 i4) := by rw [hr2, G1]; simp only [upd, if_true]; rw [if_neg n14.symm, v1]; rfl
  have v3 : x3 = pu_c1 (σ.1 54 i1) (σ.1 54 i2) (σ.1 54 i3) (σ.1 54 i4) := by rw [ex3, G2, G1]; simp only [upd, if_true]; rw [if_neg n34, if_neg n13.symm, v2]; rfl
  have v4 : r4 = pu_b1 (σ.1 54 i1) (σ.1 54 i2) (σ.1 54 i3) (σ.1 54 i4) := by rw [hr4, G3, G2, G1]; simp only [upd, if_true]; rw [if_neg n23, if_neg n24, if_neg n12.symm, v3]; rfl
  have v5 : x5 = pu_a2 (σ.1 54 i1) (σ.1 54 i2) (σ.1 54 i3) (σ.1 54 i4) := by rw [ex5, G4, G3, G2, G1]; simp only [upd, if_true]; rw [if_neg n12, if_neg n13, if_neg n14, v1, v4]; rfl
  have v6 : r6 = pu_d2 (σ.1 54 i1) (σ.1 54 i2) (σ.1 54 i3) (σ.1 54 i4) := by rw [hr6, G5, G4, G3, G2]; simp only [upd, if_true]; rw [if_neg n14.symm, if_neg n24.symm, if_neg n34.symm, v2, v5]; rfl
  have v7 : x7 = pu_c2 (σ.1 54 i1) (σ.1 54 i2) (σ.1 54 i3) (σ.1 54 i4) := by rw [ex7, G6, G5, G4, G3]; simp only [upd, if_true]; rw [if_neg n34, if_neg n13.symm, if_neg n23.symm, v3, v6]; rfl
  have v8 : r8 = pu_b2 (σ.1 54 i1) (σ.1 54 i2) (σ.1 54 i3) (σ.1 54 i4) := by rw [hr8, G7, G6, G5, G4]; simp only [upd, if_true]; rw [if_neg n23, if_neg n24, if_neg n12.symm, v4, v7]; rfl
  refine cv_vret S hr hlk hsz h ?_ dX6_stir_178
  have hG : σ12.1 54 = pu_stir (σ.1 54) i1 i2 i3 i4 := by
    funext j
    rw [G8, G7, G6, G5, G4, G3, G2, G1, v8, v7, v6, v5]
    simp only [upd, pu_stir]
    by_cases j4 : j = i4
    · subst j4; simp [n12, n13, n14, n23, n24, n34, n12.symm, n13.symm, n14.symm, n23.symm, n24.symm, n34.symm]
    · by_cases j3 : j = i3
      · subst j3; simp [n12, n13, n14, n23, n24, n34, n12.symm, n13.symm, n14.symm, n23.symm, n24.symm, n34.symm]
      · by_cases j2 : j = i2
        · subst j2; simp [n12, n13, n14, n23, n24, n34, n12.symm, n13.symm, n14.symm, n23.symm, n24.symm, n34.symm]
        · by_cases j1 : j = i1 <;> simp [j1, j2, j3, j4, n12, n13, n14, n23, n24, n34, n12.symm, n13.symm, n14.symm, n23.symm, n24.symm, n34.symm]
  have hS : σ12 = cv_uI σ 54 (σ12.1 54) := by rw [eσ12, eσ10, eσ9, eσ7, eσ6, eσ4, eσ3, eσ1]; simp only [cv_uI_uI, cv_I1, if_true]
  rw [hS, hG]

set_option maxHeartbeats 4000000 in
set_option maxRecDepth 100000 in
/-- the block of the key and x, y, z -/
theorem m_block (l : Launch) (E : cv_E) (σ : cv_S) (x y z : Int32) : cv_Mv l E yX6_block wsX6_block (cv_R 3) [.ref (E.2.1 49), .int x, .int y, .int z] σ (fun τ => cv_fr [54, 55] σ τ ∧ pu_eq 16 (τ.1 54) (pu_blk (σ.1 56) x y z)) := by
  intro sz
  refine cv_in (ws := wsX6_block) (cc := cX6_block) (maxL := 6) (ret := none) (own := RX6) rfl (by decide) rfl (Nat.le_of_ble_eq_true rfl) ?_
  intro p e s m below meth c S K hr hlk hsz h ls hl
  have hl : lv_has ls 6 [(0, .ref (E.2.1 49)), (1, .int x), (2, .int y), (3, .int z)] := hl
  have hinX6 : ∀ w ∈ u_ws RX6 TX6 18, w ∈ wsX6_block := by decide +kernel
  have hf_23 := S.2.2.2.2 (.fieldLink RX6 23 "CrashVaultModel" "state" "[I") (by decide +kernel)
  have hf_26 := S.2.2.2.2 (.fieldLink RX6 26 "CrashVaultModel" "start" "[I") (by decide +kernel)
  have hf_29 := S.2.2.2.2 (.fieldLink RX6 29 "CrashVaultModel" "key" "[I") (by decide +kernel)
  refine lv_aload_n S.1 S.2.1 dX6_block_0 rfl (lv_at hl 0 rfl) ?_
  refine cv_gf (ci := 6) (C := RX6) (T := TX6) (N := 18) (v := .ref (E.2.1 55)) S K h 49 rfl hinX6 rfl rfl 13 (by decide) hf_26 rfl rfl dX6_block_1 ?_
  refine lv_iconst (v := 0) S.1 S.2.1 dX6_block_4 (by decide) ?_
  refine lv_ldc (v := 1634760805) S.1 S.2.1 S.2.2.2.1 (S.2.2.2.2 (.constant RX6 46 (1634760805)) (by decide +kernel)) dX6_block_5 ?_
  refine cv_iast (x := 1634760805) S K h 55 rfl (n := 16) rfl 0 rfl (by decide) dX6_block_7 (fun σ13 H locs eσ13 h => ?_)
  refine lv_aload_n S.1 S.2.1 dX6_block_8 rfl (lv_at hl 0 rfl) ?_
  refine cv_gf (ci := 6) (C := RX6) (T := TX6) (N := 18) (v := .ref (E.2.1 55)) S K h 49 rfl hinX6 rfl rfl 13 (by decide) hf_26 rfl rfl dX6_block_9 ?_
  refine lv_iconst (v := 1) S.1 S.2.1 dX6_block_12 (by decide) ?_
  refine lv_ldc (v := 857760878) S.1 S.2.1 S.2.2.2.1 (S.2.2.2.2 (.constant RX6 47 (857760878)) (by decide +kernel)) dX6_block_13 ?_
  refine cv_iast (x := 857760878) S K h 55 rfl (n := 16) rfl 1 rfl (by decide) dX6_block_15 (fun σ14 H locs eσ14 h => ?_)
  refine lv_aload_n S.1 S.2.1 dX6_block_16 rfl (lv_at hl 0 rfl) ?_
  refine cv_gf (ci := 6) (C := RX6) (T := TX6) (N := 18) (v := .ref (E.2.1 55)) S K h 49 rfl hinX6 rfl rfl 13 (by decide) hf_26 rfl rfl dX6_block_17 ?_
  refine lv_iconst (v := 2) S.1 S.2.1 dX6_block_20 (by decide) ?_
  refine lv_ldc (v := 2036477234) S.1 S.2.1 S.2.2.2.1 (S.2.2.2.2 (.constant RX6 48 (2036477234)) (by decide +kernel)) dX6_block_21 ?_
  refine cv_iast (x := 2036477234) S K h 55 rfl (n := 16) rfl 2 rfl (by decide) dX6_block_23 (fun σ15 H locs eσ15 h => ?_)
  refine lv_aload_n S.1 S.2.1 dX6_block_24 rfl (lv_at hl 0 rfl) ?_
  refine cv_gf (ci := 6) (C := RX6) (T := TX6) (N := 18) (v := .ref (E.2.1 55)) S K h 49 rfl hinX6 rfl rfl 13 (by decide) hf_26 rfl rfl dX6_block_25 ?_
  refine lv_iconst (v := 3) S.1 S.2.1 dX6_block_28 (by decide) ?_
  refine lv_ldc (v := 1797285236) S.1 S.2.1 S.2.2.2.1 (S.2.2.2.2 (.constant RX6 49 (1797285236)) (by decide +kernel)) dX6_block_29 ?_
  refine cv_iast (x := 1797285236) S K h 55 rfl (n := 16) rfl 3 rfl (by decide) dX6_block_31 (fun σ16 H locs eσ16 h => ?_)
  refine lv_iconst (v := 0) S.1 S.2.1 dX6_block_32 (by decide) ?_
  refine lv_istore (lv' := [(4, .int 0), (0, .ref (E.2.1 49)), (1, .int x), (2, .int y), (3, .int z)]) S.1 S.2.1 dX6_block_33 hl (by decide) rfl (fun ls hl => ?_)
  have hst : cv_fr [54, 55] σ σ16 ∧ (σ16.1 55 0 = 1634760805 ∧ σ16.1 55 1 = 857760878 ∧ σ16.1 55 2 = 2036477234 ∧ σ16.1 55 3 = 1797285236) := by
    subst eσ16 eσ15 eσ14 eσ13
    exact ⟨⟨fun k hk => by
      have hk5 : k ≠ 55 := fun q => hk (by rw [q]; decide)
      simp only [cv_I1, if_neg hk5], rfl⟩, by simp [cv_I1, upd]⟩
  refine cv_loop (α := Unit) (nL := 6) 4 (fun i a τ => cv_fr [54, 55] σ τ ∧ (τ.1 55 0 = 1634760805 ∧ τ.1 55 1 = 857760878 ∧ τ.1 55 2 = 2036477234 ∧ τ.1 55 3 = 1797285236) ∧ ∀ j, j < i → τ.1 55 (4 + j) = σ.1 56 j ∧ τ.1 55 (8 + j) = σ.1 56 j) (fun i a => [(4, .int (nI i)), (0, .ref (E.2.1 49)), (1, .int x), (2, .int y), (3, .int z)]) ?_ ?_ 0 () σ16 _ _ _ (by omega) (⟨hst.1, hst.2, fun j hj => absurd hj (Nat.not_lt_zero j)⟩) h hl
  · intro i a τ H locs ls hi hI h hl ih
    have hl : lv_has ls 6 [(4, .int (nI i)), (0, .ref (E.2.1 49)), (1, .int x), (2, .int y), (3, .int z)] := hl
    obtain ⟨g1, g2, g3⟩ := hI
    refine lv_iload S.1 S.2.1 dX6_block_35 (lv_at hl 0 rfl) ?_
    refine lv_iconst (v := 4) S.1 S.2.1 dX6_block_37 (by decide) ?_
    refine lv_icmp_ge (tgt := 80) S.1 S.2.1 dX6_block_38 (by decide) (fun c1 => ?_) (fun c1 => ?_)
    · exact absurd c1 (nI_ge (b := 4) hi (by decide))
    · refine lv_aload_n S.1 S.2.1 dX6_block_41 rfl (lv_at hl 1 rfl) ?_
      refine cv_gf (ci := 6) (C := RX6) (T := TX6) (N := 18) (v := .ref (E.2.1 55)) S K h 49 rfl hinX6 rfl rfl 13 (by decide) hf_26 rfl rfl dX6_block_42 ?_
      refine lv_iconst (v := 4) S.1 S.2.1 dX6_block_45 (by decide) ?_
      refine lv_iload S.1 S.2.1 dX6_block_46 (lv_at hl 0 rfl) ?_
      refine lv_iadd S.1 S.2.1 dX6_block_48 ?_
      refine cv_rei (show (4 + ((nI i))) = nI (4 + i) from nI_add 4 i) ?_
      refine lv_aload_n S.1 S.2.1 dX6_block_49 rfl (lv_at hl 1 rfl) ?_
      refine cv_gf (ci := 6) (C := RX6) (T := TX6) (N := 18) (v := .ref (E.2.1 56)) S K h 49 rfl hinX6 rfl rfl 14 (by decide) hf_29 rfl rfl dX6_block_50 ?_
      refine lv_iload S.1 S.2.1 dX6_block_53 (lv_at hl 0 rfl) ?_
      refine cv_iald S K h 56 rfl (n := 4) rfl i rfl hi dX6_block_55 ?_
      refine lv_topi (fun k1 ek1 => ?_)
      refine cv_iast (x := k1) S K h 55 rfl (n := 16) rfl (4 + i) rfl (by omega) dX6_block_56 (fun σ17 H locs eσ17 h => ?_)
      refine lv_aload_n S.1 S.2.1 dX6_block_57 rfl (lv_at hl 1 rfl) ?_
      refine cv_gf (ci := 6) (C := RX6) (T := TX6) (N := 18) (v := .ref (E.2.1 55)) S K h 49 rfl hinX6 rfl rfl 13 (by decide) hf_26 rfl rfl dX6_block_58 ?_
      refine lv_bipush (v := 8) S.1 S.2.1 dX6_block_61 (by decide) ?_
      refine lv_iload S.1 S.2.1 dX6_block_63 (lv_at hl 0 rfl) ?_
      refine lv_iadd S.1 S.2.1 dX6_block_65 ?_
      refine cv_rei (show (8 + ((nI i))) = nI (8 + i) from nI_add 8 i) ?_
      refine lv_aload_n S.1 S.2.1 dX6_block_66 rfl (lv_at hl 1 rfl) ?_
      refine cv_gf (ci := 6) (C := RX6) (T := TX6) (N := 18) (v := .ref (E.2.1 56)) S K h 49 rfl hinX6 rfl rfl 14 (by decide) hf_29 rfl rfl dX6_block_67 ?_
      refine lv_iload S.1 S.2.1 dX6_block_70 (lv_at hl 0 rfl) ?_
      refine cv_iald S K h 56 rfl (n := 4) rfl i rfl hi dX6_block_72 ?_
      refine lv_topi (fun k2 ek2 => ?_)
      refine cv_iast (x := k2) S K h 55 rfl (n := 16) rfl (8 + i) rfl (by omega) dX6_block_73 (fun σ18 H locs eσ18 h => ?_)
      obtain ⟨z5, ez5⟩ : ∃ y : Int32, y = ((nI i)) + 1 := ⟨_, rfl⟩
      refine lv_iinc (v := z5) (lv' := [(4, .int z5), (0, .ref (E.2.1 49)), (1, .int x), (2, .int y), (3, .int z)]) S.1 S.2.1 dX6_block_74 hl (k := 0) rfl (by rw [ez5]; rfl) (by decide) rfl (fun ls hl => ?_)
      refine lv_goto (tgt := 35) S.1 S.2.1 dX6_block_77 (by decide) ?_
      rw [ez5, nI_1] at hl
      have hk1 : k1 = σ.1 56 i := by rw [ek1, g1.1 56 (by decide)]
      have hk2 : k2 = σ.1 56 i := by rw [ek2, eσ17, cv_I1, if_neg (by decide), g1.1 56 (by decide)]
      have r5 : σ18.1 55 = upd (upd (τ.1 55) (4 + i) (σ.1 56 i)) (8 + i) (σ.1 56 i) := by rw [eσ18, cv_I1, if_pos rfl, eσ17, cv_I1, if_pos rfl, hk1, hk2]
      have rf : cv_fr [54, 55] τ σ18 := by rw [eσ18, eσ17]; exact (cv_fr.up (by decide)).trans (cv_fr.up (by decide))
      refine ih () σ18 H locs ls ⟨g1.trans rf, ?_, fun j hj => ?_⟩ h hl
      · rw [r5]
        refine ⟨?_, ?_, ?_, ?_⟩ <;> rw [pk_un (by omega), pk_un (by omega)]
        · exact g2.1
        · exact g2.2.1
        · exact g2.2.2.1
        · exact g2.2.2.2
      · rw [r5]
        by_cases hji : j = i
        · subst hji; exact ⟨by rw [pk_un (by omega), pk_us], by rw [pk_us]⟩
        · rw [pk_un (by omega), pk_un (by omega), pk_un (by omega), pk_un (by omega)]; exact g3 j (by omega)
  · intro a τ H locs ls hI h hl
    have hl : lv_has ls 6 [(4, .int (nI 4)), (0, .ref (E.2.1 49)), (1, .int x), (2, .int y), (3, .int z)] := hl
    obtain ⟨g1, g2, g3⟩ := hI
    refine lv_iload S.1 S.2.1 dX6_block_35 (lv_at hl 0 rfl) ?_
    refine lv_iconst (v := 4) S.1 S.2.1 dX6_block_37 (by decide) ?_
    refine lv_icmp_ge (tgt := 80) S.1 S.2.1 dX6_block_38 (by decide) (fun c1 => ?_) (fun c1 => ?_)
    · refine lv_aload_n S.1 S.2.1 dX6_block_80 rfl (lv_at hl 1 rfl) ?_
      refine cv_gf (ci := 6) (C := RX6) (T := TX6) (N := 18) (v := .ref (E.2.1 55)) S K h 49 rfl hinX6 rfl rfl 13 (by decide) hf_26 rfl rfl dX6_block_81 ?_
      refine lv_bipush (v := 12) S.1 S.2.1 dX6_block_84 (by decide) ?_
      refine lv_iload_n S.1 S.2.1 dX6_block_86 rfl (lv_at hl 2 rfl) ?_
      refine cv_iast (x := x) S K h 55 rfl (n := 16) rfl 12 rfl (by decide) dX6_block_87 (fun σ19 H locs eσ19 h => ?_)
      refine lv_aload_n S.1 S.2.1 dX6_block_88 rfl (lv_at hl 1 rfl) ?_
      refine cv_gf (ci := 6) (C := RX6) (T := TX6) (N := 18) (v := .ref (E.2.1 55)) S K h 49 rfl hinX6 rfl rfl 13 (by decide) hf_26 rfl rfl dX6_block_89 ?_
      refine lv_bipush (v := 13) S.1 S.2.1 dX6_block_92 (by decide) ?_
      refine lv_iload_n S.1 S.2.1 dX6_block_94 rfl (lv_at hl 3 rfl) ?_
      refine cv_iast (x := y) S K h 55 rfl (n := 16) rfl 13 rfl (by decide) dX6_block_95 (fun σ20 H locs eσ20 h => ?_)
      refine lv_aload_n S.1 S.2.1 dX6_block_96 rfl (lv_at hl 1 rfl) ?_
      refine cv_gf (ci := 6) (C := RX6) (T := TX6) (N := 18) (v := .ref (E.2.1 55)) S K h 49 rfl hinX6 rfl rfl 13 (by decide) hf_26 rfl rfl dX6_block_97 ?_
      refine lv_bipush (v := 14) S.1 S.2.1 dX6_block_100 (by decide) ?_
      refine lv_iload_n S.1 S.2.1 dX6_block_102 rfl (lv_at hl 4 rfl) ?_
      refine cv_iast (x := z) S K h 55 rfl (n := 16) rfl 14 rfl (by decide) dX6_block_103 (fun σ21 H locs eσ21 h => ?_)
      refine lv_aload_n S.1 S.2.1 dX6_block_104 rfl (lv_at hl 1 rfl) ?_
      refine cv_gf (ci := 6) (C := RX6) (T := TX6) (N := 18) (v := .ref (E.2.1 55)) S K h 49 rfl hinX6 rfl rfl 13 (by decide) hf_26 rfl rfl dX6_block_105 ?_
      refine lv_bipush (v := 15) S.1 S.2.1 dX6_block_108 (by decide) ?_
      refine lv_iconst (v := 0) S.1 S.2.1 dX6_block_110 (by decide) ?_
      refine cv_iast (x := 0) S K h 55 rfl (n := 16) rfl 15 rfl (by decide) dX6_block_111 (fun σ22 H locs eσ22 h => ?_)
      have hs : cv_fr [54, 55] σ σ22 ∧ pu_eq 16 (σ22.1 55) (pu_start (σ.1 56) x y z) := by
        have rf : cv_fr [54, 55] τ σ22 := by rw [eσ22, eσ21, eσ20, eσ19]; exact (((cv_fr.up (by decide)).trans (cv_fr.up (by decide))).trans (cv_fr.up (by decide))).trans (cv_fr.up (by decide))
        have r5 : σ22.1 55 = upd (upd (upd (upd (τ.1 55) 12 x) 13 y) 14 z) 15 0 := by rw [eσ22, eσ21, eσ20, eσ19]; simp only [cv_I1, if_true]
        obtain ⟨u0, u1, u2, u3⟩ := g2
        have p0 := g3 0 (by decide)
        have p1 := g3 1 (by decide)
        have p2 := g3 2 (by decide)
        have p3 := g3 3 (by decide)
        refine ⟨g1.trans rf, fun i hi => ?_⟩
        rw [r5]
        rcases (show i = 0 ∨ i = 1 ∨ i = 2 ∨ i = 3 ∨ i = 4 ∨ i = 5 ∨ i = 6 ∨ i = 7 ∨ i = 8 ∨ i = 9 ∨ i = 10 ∨ i = 11 ∨ i = 12 ∨ i = 13 ∨ i = 14 ∨ i = 15 by omega) with rfl | rfl | rfl | rfl | rfl | rfl | rfl | rfl | rfl | rfl | rfl | rfl | rfl | rfl | rfl | rfl <;> simp [upd, pu_start, u0, u1, u2, u3, p0, p1, p2, p3]
      refine lv_iconst (v := 0) S.1 S.2.1 dX6_block_112 (by decide) ?_
      refine lv_istore (lv' := [(4, .int 0), (0, .ref (E.2.1 49)), (1, .int x), (2, .int y), (3, .int z)]) S.1 S.2.1 dX6_block_113 hl (by decide) rfl (fun ls hl => ?_)
      refine cv_loop (α := Unit) (nL := 6) 16 (fun i a τ => cv_fr [54, 55] σ τ ∧ pu_eq 16 (τ.1 55) (pu_start (σ.1 56) x y z) ∧ ∀ j, j < i → τ.1 54 j = (pu_start (σ.1 56) x y z) j) (fun i a => [(4, .int (nI i)), (0, .ref (E.2.1 49)), (1, .int x), (2, .int y), (3, .int z)]) ?_ ?_ 0 () σ22 _ _ _ (by omega) (⟨hs.1, hs.2, fun j hj => absurd hj (Nat.not_lt_zero j)⟩) h hl
      · intro i a ρ H locs ls hi hI h hl ih
        have hl : lv_has ls 6 [(4, .int (nI i)), (0, .ref (E.2.1 49)), (1, .int x), (2, .int y), (3, .int z)] := hl
        obtain ⟨g1, g2, g3⟩ := hI
        refine lv_iload S.1 S.2.1 dX6_block_115 (lv_at hl 0 rfl) ?_
        refine lv_bipush (v := 16) S.1 S.2.1 dX6_block_117 (by decide) ?_
        refine lv_icmp_ge (tgt := 142) S.1 S.2.1 dX6_block_119 (by decide) (fun c2 => ?_) (fun c2 => ?_)
        · exact absurd c2 (nI_ge (b := 16) hi (by decide))
        · refine lv_aload_n S.1 S.2.1 dX6_block_122 rfl (lv_at hl 1 rfl) ?_
          refine cv_gf (ci := 6) (C := RX6) (T := TX6) (N := 18) (v := .ref (E.2.1 54)) S K h 49 rfl hinX6 rfl rfl 12 (by decide) hf_23 rfl rfl dX6_block_123 ?_
          refine lv_iload S.1 S.2.1 dX6_block_126 (lv_at hl 0 rfl) ?_
          refine lv_aload_n S.1 S.2.1 dX6_block_128 rfl (lv_at hl 1 rfl) ?_
          refine cv_gf (ci := 6) (C := RX6) (T := TX6) (N := 18) (v := .ref (E.2.1 55)) S K h 49 rfl hinX6 rfl rfl 13 (by decide) hf_26 rfl rfl dX6_block_129 ?_
          refine lv_iload S.1 S.2.1 dX6_block_132 (lv_at hl 0 rfl) ?_
          refine cv_iald S K h 55 rfl (n := 16) rfl i rfl hi dX6_block_134 ?_
          refine lv_topi (fun k1 ek1 => ?_)
          refine cv_iast (x := k1) S K h 54 rfl (n := 16) rfl i rfl hi dX6_block_135 (fun σ23 H locs eσ23 h => ?_)
          obtain ⟨z5, ez5⟩ : ∃ y : Int32, y = ((nI i)) + 1 := ⟨_, rfl⟩
          refine lv_iinc (v := z5) (lv' := [(4, .int z5), (0, .ref (E.2.1 49)), (1, .int x), (2, .int y), (3, .int z)]) S.1 S.2.1 dX6_block_136 hl (k := 0) rfl (by rw [ez5]; rfl) (by decide) rfl (fun ls hl => ?_)
          refine lv_goto (tgt := 115) S.1 S.2.1 dX6_block_139 (by decide) ?_
          rw [ez5, nI_1] at hl
          refine ih () σ23 H locs ls ?_ h hl
          rw [eσ23]
          refine ⟨g1.trans (cv_fr.up (by decide)), g2, fun j hj => ?_⟩
          rw [cv_I1, if_pos rfl]
          by_cases hji : j = i
          · rw [hji, pk_us, ek1]; exact g2 i hi
          · rw [pk_un hji]; exact g3 j (by omega)
      · intro a ρ H locs ls hI h hl
        have hl : lv_has ls 6 [(4, .int (nI 16)), (0, .ref (E.2.1 49)), (1, .int x), (2, .int y), (3, .int z)] := hl
        obtain ⟨g1, g2, g3⟩ := hI
        refine lv_iload S.1 S.2.1 dX6_block_115 (lv_at hl 0 rfl) ?_
        refine lv_bipush (v := 16) S.1 S.2.1 dX6_block_117 (by decide) ?_
        refine lv_icmp_ge (tgt := 142) S.1 S.2.1 dX6_block_119 (by decide) (fun c2 => ?_) (fun c2 => ?_)
        · refine lv_iconst (v := 0) S.1 S.2.1 dX6_block_142 (by decide) ?_
          refine lv_istore (lv' := [(4, .int 0), (0, .ref (E.2.1 49)), (1, .int x), (2, .int y), (3, .int z)]) S.1 S.2.1 dX6_block_143 hl (by decide) rfl (fun ls hl => ?_)
          refine cv_loop (α := Unit) (nL := 6) 4 (fun i a τ => cv_fr [54, 55] σ τ ∧ pu_eq 16 (τ.1 55) (pu_start (σ.1 56) x y z) ∧ pu_eq 16 (τ.1 54) (pu_it i (pu_start (σ.1 56) x y z))) (fun i a => [(4, .int (nI i)), (0, .ref (E.2.1 49)), (1, .int x), (2, .int y), (3, .int z)]) ?_ ?_ 0 () ρ _ _ _ (by omega) (⟨g1, g2, g3⟩) h hl
          · intro i a ρ H locs ls hi hI h hl ih
            have hl : lv_has ls 6 [(4, .int (nI i)), (0, .ref (E.2.1 49)), (1, .int x), (2, .int y), (3, .int z)] := hl
            obtain ⟨g1, g2, g3⟩ := hI
            refine lv_iload S.1 S.2.1 dX6_block_145 (lv_at hl 0 rfl) ?_
            refine lv_iconst (v := 4) S.1 S.2.1 dX6_block_147 (by decide) ?_
            refine lv_icmp_ge (tgt := 239) S.1 S.2.1 dX6_block_148 (by decide) (fun c3 => ?_) (fun c3 => ?_)
            · exact absurd c3 (nI_ge (b := 4) hi (by decide))
            · refine lv_iconst (v := 0) S.1 S.2.1 dX6_block_151 (by decide) ?_
              refine lv_istore (lv' := [(5, .int 0), (4, .int (nI i)), (0, .ref (E.2.1 49)), (1, .int x), (2, .int y), (3, .int z)]) S.1 S.2.1 dX6_block_152 hl (by decide) rfl (fun ls hl => ?_)
              refine cv_loop (α := Unit) (nL := 6) 4 (fun j a τ => cv_fr [54, 55] σ τ ∧ pu_eq 16 (τ.1 55) (pu_start (σ.1 56) x y z) ∧ pu_eq 16 (τ.1 54) (pu_h1p (pu_it i (pu_start (σ.1 56) x y z)) j)) (fun j a => [(5, .int (nI j)), (4, .int (nI i)), (0, .ref (E.2.1 49)), (1, .int x), (2, .int y), (3, .int z)]) ?_ ?_ 0 () ρ _ _ _ (by omega) ⟨g1, g2, g3⟩ h hl
              · intro j a μ H locs ls hj hJ h hl jh
                have hl : lv_has ls 6 [(5, .int (nI j)), (4, .int (nI i)), (0, .ref (E.2.1 49)), (1, .int x), (2, .int y), (3, .int z)] := hl
                obtain ⟨j1, j2, j3⟩ := hJ
                refine lv_iload S.1 S.2.1 dX6_block_154 (lv_at hl 0 rfl) ?_
                refine lv_iconst (v := 4) S.1 S.2.1 dX6_block_156 (by decide) ?_
                refine lv_icmp_ge (tgt := 186) S.1 S.2.1 dX6_block_157 (by decide) (fun c4 => ?_) (fun c4 => ?_)
                · exact absurd c4 (nI_ge (b := 4) hj (by decide))
                · refine lv_aload_n S.1 S.2.1 dX6_block_160 rfl (lv_at hl 2 rfl) ?_
                  refine lv_iload S.1 S.2.1 dX6_block_161 (lv_at hl 0 rfl) ?_
                  refine lv_iconst (v := 4) S.1 S.2.1 dX6_block_163 (by decide) ?_
                  refine lv_iload S.1 S.2.1 dX6_block_164 (lv_at hl 0 rfl) ?_
                  refine lv_iadd S.1 S.2.1 dX6_block_166 ?_
                  refine cv_rei (show (4 + ((nI j))) = nI (4 + j) from nI_add 4 j) ?_
                  refine lv_bipush (v := 8) S.1 S.2.1 dX6_block_167 (by decide) ?_
                  refine lv_iload S.1 S.2.1 dX6_block_169 (lv_at hl 0 rfl) ?_
                  refine lv_iadd S.1 S.2.1 dX6_block_171 ?_
                  refine cv_rei (show (8 + ((nI j))) = nI (8 + j) from nI_add 8 j) ?_
                  refine lv_bipush (v := 12) S.1 S.2.1 dX6_block_172 (by decide) ?_
                  refine lv_iload S.1 S.2.1 dX6_block_174 (lv_at hl 0 rfl) ?_
                  refine lv_iadd S.1 S.2.1 dX6_block_176 ?_
                  refine cv_rei (show (12 + ((nI j))) = nI (12 + j) from nI_add 12 j) ?_
                  refine cv_callv (ci := 6) (C := RX6) (T := TX6) (N := 18) S K h hl.1 rfl rfl rfl (m_stir l E μ j (4 + j) (8 + j) (12 + j) (by omega) (by omega) (by omega) (by omega) (by omega) (by omega) (by omega) (by omega) (by omega) (by omega)) (cwV 4 S.2.2.2.2 gX6_block_X6_stir rfl rfl rfl (by decide +kernel) ⟨Nat.le_of_ble_eq_true rfl, Nat.le_of_ble_eq_true rfl⟩) rfl rfl (Nat.le_of_ble_eq_true rfl) ⟨Nat.zero_le _, Nat.zero_le _⟩ dX6_block_177 (fun σ24 H locs hq h => ?_)
                  obtain ⟨z5, ez5⟩ : ∃ y : Int32, y = ((nI j)) + 1 := ⟨_, rfl⟩
                  refine lv_iinc (v := z5) (lv' := [(5, .int z5), (4, .int (nI i)), (0, .ref (E.2.1 49)), (1, .int x), (2, .int y), (3, .int z)]) S.1 S.2.1 dX6_block_180 hl (k := 0) rfl (by rw [ez5]; rfl) (by decide) rfl (fun ls hl => ?_)
                  refine lv_goto (tgt := 154) S.1 S.2.1 dX6_block_183 (by decide) ?_
                  rw [ez5, nI_1] at hl
                  refine jh () σ24 H locs ls ?_ h hl
                  rw [hq]
                  refine ⟨j1.trans (cv_fr.up (by decide)), j2, ?_⟩
                  rw [cv_I1, if_pos rfl]
                  exact pu_stir_eq j3 (by omega) (by omega) (by omega) (by omega)
              · intro a μ H locs ls hJ h hl
                have hl : lv_has ls 6 [(5, .int (nI 4)), (4, .int (nI i)), (0, .ref (E.2.1 49)), (1, .int x), (2, .int y), (3, .int z)] := hl
                obtain ⟨j1, j2, j3⟩ := hJ
                rw [pu_h1p_4] at j3
                refine lv_iload S.1 S.2.1 dX6_block_154 (lv_at hl 0 rfl) ?_
                refine lv_iconst (v := 4) S.1 S.2.1 dX6_block_156 (by decide) ?_
                refine lv_icmp_ge (tgt := 186) S.1 S.2.1 dX6_block_157 (by decide) (fun c4 => ?_) (fun c4 => ?_)
                · refine lv_iconst (v := 0) S.1 S.2.1 dX6_block_186 (by decide) ?_
                  refine lv_istore (lv' := [(5, .int 0), (4, .int (nI i)), (0, .ref (E.2.1 49)), (1, .int x), (2, .int y), (3, .int z)]) S.1 S.2.1 dX6_block_187 hl (by decide) rfl (fun ls hl => ?_)
                  refine cv_loop (α := Unit) (nL := 6) 4 (fun j a τ => cv_fr [54, 55] σ τ ∧ pu_eq 16 (τ.1 55) (pu_start (σ.1 56) x y z) ∧ pu_eq 16 (τ.1 54) (pu_h2p (pu_h1 (pu_it i (pu_start (σ.1 56) x y z))) j)) (fun j a => [(5, .int (nI j)), (4, .int (nI i)), (0, .ref (E.2.1 49)), (1, .int x), (2, .int y), (3, .int z)]) ?_ ?_ 0 () μ _ _ _ (by omega) ⟨j1, j2, j3⟩ h hl
                  · intro j a ν H locs ls hj hJ h hl jh
                    have hl : lv_has ls 6 [(5, .int (nI j)), (4, .int (nI i)), (0, .ref (E.2.1 49)), (1, .int x), (2, .int y), (3, .int z)] := hl
                    obtain ⟨j1, j2, j3⟩ := hJ
                    refine lv_iload S.1 S.2.1 dX6_block_189 (lv_at hl 0 rfl) ?_
                    refine lv_iconst (v := 4) S.1 S.2.1 dX6_block_191 (by decide) ?_
                    refine lv_icmp_ge (tgt := 233) S.1 S.2.1 dX6_block_192 (by decide) (fun c5 => ?_) (fun c5 => ?_)
                    · exact absurd c5 (nI_ge (b := 4) hj (by decide))
                    · refine lv_aload_n S.1 S.2.1 dX6_block_195 rfl (lv_at hl 2 rfl) ?_
                      refine lv_iload S.1 S.2.1 dX6_block_196 (lv_at hl 0 rfl) ?_
                      refine lv_iconst (v := 4) S.1 S.2.1 dX6_block_198 (by decide) ?_
                      refine lv_iload S.1 S.2.1 dX6_block_199 (lv_at hl 0 rfl) ?_
                      refine lv_iconst (v := 1) S.1 S.2.1 dX6_block_201 (by decide) ?_
                      refine lv_iadd S.1 S.2.1 dX6_block_202 ?_
                      refine cv_rei (show (((nI j)) + 1) = nI (j + 1) from nI_add j 1) ?_
                      refine lv_iconst (v := 4) S.1 S.2.1 dX6_block_203 (by decide) ?_
                      refine lv_irem S.1 S.2.1 dX6_block_204 (by decide) ?_
                      refine cv_rei (show (((nI (j + 1))) - ((nI (j + 1))) / 4 * 4) = nI ((j + 1) % 4) from pk_rem (d := 4) (by omega) (by decide) (by decide)) ?_
                      refine lv_iadd S.1 S.2.1 dX6_block_205 ?_
                      refine cv_rei (show (4 + ((nI ((j + 1) % 4)))) = nI (4 + (j + 1) % 4) from nI_add 4 _) ?_
                      refine lv_bipush (v := 8) S.1 S.2.1 dX6_block_206 (by decide) ?_
                      refine lv_iload S.1 S.2.1 dX6_block_208 (lv_at hl 0 rfl) ?_
                      refine lv_iconst (v := 2) S.1 S.2.1 dX6_block_210 (by decide) ?_
                      refine lv_iadd S.1 S.2.1 dX6_block_211 ?_
                      refine cv_rei (show (((nI j)) + 2) = nI (j + 2) from nI_add j 2) ?_
                      refine lv_iconst (v := 4) S.1 S.2.1 dX6_block_212 (by decide) ?_
                      refine lv_irem S.1 S.2.1 dX6_block_213 (by decide) ?_
                      refine cv_rei (show (((nI (j + 2))) - ((nI (j + 2))) / 4 * 4) = nI ((j + 2) % 4) from pk_rem (d := 4) (by omega) (by decide) (by decide)) ?_
                      refine lv_iadd S.1 S.2.1 dX6_block_214 ?_
                      refine cv_rei (show (8 + ((nI ((j + 2) % 4)))) = nI (8 + (j + 2) % 4) from nI_add 8 _) ?_
                      refine lv_bipush (v := 12) S.1 S.2.1 dX6_block_215 (by decide) ?_
                      refine lv_iload S.1 S.2.1 dX6_block_217 (lv_at hl 0 rfl) ?_
                      refine lv_iconst (v := 3) S.1 S.2.1 dX6_block_219 (by decide) ?_
                      refine lv_iadd S.1 S.2.1 dX6_block_220 ?_
                      refine cv_rei (show (((nI j)) + 3) = nI (j + 3) from nI_add j 3) ?_
                      refine lv_iconst (v := 4) S.1 S.2.1 dX6_block_221 (by decide) ?_
                      refine lv_irem S.1 S.2.1 dX6_block_222 (by decide) ?_
                      refine cv_rei (show (((nI (j + 3))) - ((nI (j + 3))) / 4 * 4) = nI ((j + 3) % 4) from pk_rem (d := 4) (by omega) (by decide) (by decide)) ?_
                      refine lv_iadd S.1 S.2.1 dX6_block_223 ?_
                      refine cv_rei (show (12 + ((nI ((j + 3) % 4)))) = nI (12 + (j + 3) % 4) from nI_add 12 _) ?_
                      refine cv_callv (ci := 6) (C := RX6) (T := TX6) (N := 18) S K h hl.1 rfl rfl rfl (m_stir l E ν j (4 + (j + 1) % 4) (8 + (j + 2) % 4) (12 + (j + 3) % 4) (by omega) (by omega) (by omega) (by omega) (by omega) (by omega) (by omega) (by omega) (by omega) (by omega)) (cwV 4 S.2.2.2.2 gX6_block_X6_stir rfl rfl rfl (by decide +kernel) ⟨Nat.le_of_ble_eq_true rfl, Nat.le_of_ble_eq_true rfl⟩) rfl rfl (Nat.le_of_ble_eq_true rfl) ⟨Nat.zero_le _, Nat.zero_le _⟩ dX6_block_224 (fun σ25 H locs hq h => ?_)
                      obtain ⟨z5, ez5⟩ : ∃ y : Int32, y = ((nI j)) + 1 := ⟨_, rfl⟩
                      refine lv_iinc (v := z5) (lv' := [(5, .int z5), (4, .int (nI i)), (0, .ref (E.2.1 49)), (1, .int x), (2, .int y), (3, .int z)]) S.1 S.2.1 dX6_block_227 hl (k := 0) rfl (by rw [ez5]; rfl) (by decide) rfl (fun ls hl => ?_)
                      refine lv_goto (tgt := 189) S.1 S.2.1 dX6_block_230 (by decide) ?_
                      rw [ez5, nI_1] at hl
                      refine jh () σ25 H locs ls ?_ h hl
                      rw [hq]
                      refine ⟨j1.trans (cv_fr.up (by decide)), j2, ?_⟩
                      rw [cv_I1, if_pos rfl]
                      exact pu_stir_eq j3 (by omega) (by omega) (by omega) (by omega)
                  · intro a ν H locs ls hJ h hl
                    have hl : lv_has ls 6 [(5, .int (nI 4)), (4, .int (nI i)), (0, .ref (E.2.1 49)), (1, .int x), (2, .int y), (3, .int z)] := hl
                    obtain ⟨j1, j2, j3⟩ := hJ
                    rw [pu_h2p_4] at j3
                    refine lv_iload S.1 S.2.1 dX6_block_189 (lv_at hl 0 rfl) ?_
                    refine lv_iconst (v := 4) S.1 S.2.1 dX6_block_191 (by decide) ?_
                    refine lv_icmp_ge (tgt := 233) S.1 S.2.1 dX6_block_192 (by decide) (fun c5 => ?_) (fun c5 => ?_)
                    · obtain ⟨z4, ez4⟩ : ∃ y : Int32, y = ((nI i)) + 1 := ⟨_, rfl⟩
                      refine lv_iinc (v := z4) (lv' := [(4, .int z4), (5, .int (nI 4)), (0, .ref (E.2.1 49)), (1, .int x), (2, .int y), (3, .int z)]) S.1 S.2.1 dX6_block_233 hl (k := 1) rfl (by rw [ez4]; rfl) (by decide) rfl (fun ls hl => ?_)
                      refine lv_goto (tgt := 145) S.1 S.2.1 dX6_block_236 (by decide) ?_
                      rw [ez4, nI_1] at hl
                      exact ih () ν H locs ls ⟨j1, j2, j3⟩ h (lv_sub hl [0, 2, 3, 4, 5] rfl)
                    · exact absurd (Int32.le_refl _) c5
                · exact absurd (Int32.le_refl _) c4
          · intro a ρ H locs ls hI h hl
            have hl : lv_has ls 6 [(4, .int (nI 4)), (0, .ref (E.2.1 49)), (1, .int x), (2, .int y), (3, .int z)] := hl
            obtain ⟨g1, g2, g3⟩ := hI
            refine lv_iload S.1 S.2.1 dX6_block_145 (lv_at hl 0 rfl) ?_
            refine lv_iconst (v := 4) S.1 S.2.1 dX6_block_147 (by decide) ?_
            refine lv_icmp_ge (tgt := 239) S.1 S.2.1 dX6_block_148 (by decide) (fun c3 => ?_) (fun c3 => ?_)
            · refine lv_iconst (v := 0) S.1 S.2.1 dX6_block_239 (by decide) ?_
              refine lv_istore (lv' := [(4, .int 0), (0, .ref (E.2.1 49)), (1, .int x), (2, .int y), (3, .int z)]) S.1 S.2.1 dX6_block_240 hl (by decide) rfl (fun ls hl => ?_)
              refine cv_loop (α := Unit) (nL := 6) 16 (fun i a τ => cv_fr [54, 55] σ τ ∧ pu_eq 16 (τ.1 55) (pu_start (σ.1 56) x y z) ∧ ∀ j, j < 16 → τ.1 54 j = if j < i then pu_it 4 (pu_start (σ.1 56) x y z) j + (pu_start (σ.1 56) x y z) j else pu_it 4 (pu_start (σ.1 56) x y z) j) (fun i a => [(4, .int (nI i)), (0, .ref (E.2.1 49)), (1, .int x), (2, .int y), (3, .int z)]) ?_ ?_ 0 () ρ _ _ _ (by omega) (⟨g1, g2, fun j hj => by rw [if_neg (Nat.not_lt_zero j)]; exact g3 j hj⟩) h hl
              · intro i a ν H locs ls hi hI h hl ih
                have hl : lv_has ls 6 [(4, .int (nI i)), (0, .ref (E.2.1 49)), (1, .int x), (2, .int y), (3, .int z)] := hl
                obtain ⟨g1, g2, g3⟩ := hI
                refine lv_iload S.1 S.2.1 dX6_block_242 (lv_at hl 0 rfl) ?_
                refine lv_bipush (v := 16) S.1 S.2.1 dX6_block_244 (by decide) ?_
                refine lv_icmp_ge (tgt := 277) S.1 S.2.1 dX6_block_246 (by decide) (fun c6 => ?_) (fun c6 => ?_)
                · exact absurd c6 (nI_ge (b := 16) hi (by decide))
                · refine lv_aload_n S.1 S.2.1 dX6_block_249 rfl (lv_at hl 1 rfl) ?_
                  refine cv_gf (ci := 6) (C := RX6) (T := TX6) (N := 18) (v := .ref (E.2.1 54)) S K h 49 rfl hinX6 rfl rfl 12 (by decide) hf_23 rfl rfl dX6_block_250 ?_
                  refine lv_iload S.1 S.2.1 dX6_block_253 (lv_at hl 0 rfl) ?_
                  refine lv_aload_n S.1 S.2.1 dX6_block_255 rfl (lv_at hl 1 rfl) ?_
                  refine cv_gf (ci := 6) (C := RX6) (T := TX6) (N := 18) (v := .ref (E.2.1 54)) S K h 49 rfl hinX6 rfl rfl 12 (by decide) hf_23 rfl rfl dX6_block_256 ?_
                  refine lv_iload S.1 S.2.1 dX6_block_259 (lv_at hl 0 rfl) ?_
                  refine cv_iald S K h 54 rfl (n := 16) rfl i rfl hi dX6_block_261 ?_
                  refine lv_aload_n S.1 S.2.1 dX6_block_262 rfl (lv_at hl 1 rfl) ?_
                  refine cv_gf (ci := 6) (C := RX6) (T := TX6) (N := 18) (v := .ref (E.2.1 55)) S K h 49 rfl hinX6 rfl rfl 13 (by decide) hf_26 rfl rfl dX6_block_263 ?_
                  refine lv_iload S.1 S.2.1 dX6_block_266 (lv_at hl 0 rfl) ?_
                  refine cv_iald S K h 55 rfl (n := 16) rfl i rfl hi dX6_block_268 ?_
                  refine lv_iadd S.1 S.2.1 dX6_block_269 ?_
                  refine lv_topi (fun xv exv => ?_)
                  refine cv_iast (x := xv) S K h 54 rfl (n := 16) rfl i rfl hi dX6_block_270 (fun σ26 H locs eσ26 h => ?_)
                  obtain ⟨z5, ez5⟩ : ∃ y : Int32, y = ((nI i)) + 1 := ⟨_, rfl⟩
                  refine lv_iinc (v := z5) (lv' := [(4, .int z5), (0, .ref (E.2.1 49)), (1, .int x), (2, .int y), (3, .int z)]) S.1 S.2.1 dX6_block_271 hl (k := 0) rfl (by rw [ez5]; rfl) (by decide) rfl (fun ls hl => ?_)
                  refine lv_goto (tgt := 242) S.1 S.2.1 dX6_block_274 (by decide) ?_
                  rw [ez5, nI_1] at hl
                  refine ih () σ26 H locs ls ?_ h hl
                  rw [eσ26]
                  refine ⟨g1.trans (cv_fr.up (by decide)), g2, fun j hj => ?_⟩
                  rw [cv_I1, if_pos rfl]
                  by_cases hji : j = i
                  · subst hji
                    rw [pk_us, if_pos (by omega), exv, g3 j hj, if_neg (by omega), g2 j hj]
                  · rw [pk_un hji, g3 j hj]
                    by_cases hj2 : j < i
                    · rw [if_pos hj2, if_pos (by omega)]
                    · rw [if_neg hj2, if_neg (by omega)]
              · intro a ν H locs ls hI h hl
                have hl : lv_has ls 6 [(4, .int (nI 16)), (0, .ref (E.2.1 49)), (1, .int x), (2, .int y), (3, .int z)] := hl
                refine lv_iload S.1 S.2.1 dX6_block_242 (lv_at hl 0 rfl) ?_
                refine lv_bipush (v := 16) S.1 S.2.1 dX6_block_244 (by decide) ?_
                refine lv_icmp_ge (tgt := 277) S.1 S.2.1 dX6_block_246 (by decide) (fun c6 => ?_) (fun c6 => ?_)
                · exact cv_vret S hr hlk hsz h ⟨hI.1, fun j hj => by rw [hI.2.2 j hj, if_pos hj]; rfl⟩ dX6_block_277
                · exact absurd (Int32.le_refl _) c6
            · exact absurd (Int32.le_refl _) c3
        · exact absurd (Int32.le_refl _) c2
    · exact absurd (Int32.le_refl _) c1
