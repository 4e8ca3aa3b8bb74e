/-! 23: EntryList: readEntry -/
theorem pu_num_p {σ : cv_S} {bv : Nat → Nat} (hf : by_R (σ.1 9) bv 300) {a : Nat} (ha : a + 8 ≤ 300) : pu_num (σ.1 9) a 8 = lN (nv bv a 8) := pu_num_nv hf 8 (Nat.le_refl 8) ha
/-- what an entry that was read holds -/
def el_N (σ σ' : cv_S) (bv : Nat → Nat) (v i a : Nat) : Prop := σ'.2.1 (v + 16) i = lN (nv bv a 8) ∧ σ'.1 (v + 19) i = nI (bv (a + 8)) ∧ (∀ k, k ≤ bv (a + 8) → σ'.2.1 (8 * v + i + 25) k = lN (nv bv (a + 9 + 8 * k) 8)) ∧ (∀ q, q < 8 → q ≠ i → el_E σ' v q σ v q) ∧ el_F v σ σ' ∧ σ'.2.2 = σ.2.2
def el_ok (σ : cv_S) (bv : Nat → Nat) (v i a en : Nat) : Prop := a + 17 ≤ en ∧ lN (nv bv a 8) ≠ 0 ∧ (i = 0 ∨ σ.2.1 (v + 16) (i - 1) < lN (nv bv a 8)) ∧ bv (a + 8) ≤ 2 ∧ a + 17 + 8 * bv (a + 8) ≤ en

set_option maxHeartbeats 4000000 in
set_option maxRecDepth 100000 in
/-- an entry is read at byte a, if it is right -/
theorem c_readEntry (l : Launch) (E : cv_E) (σ : cv_S) (v : Nat) (hv : v < 3) (bv : Nat → Nat) (hbv : by_R (σ.1 9) bv 300) (a en i : Nat) (hen : en ≤ 300) (ha : a ≤ 600) (hi8 : i < 8) : cv_Mi l E yX2_readEntry wsX2_readEntry (cv_R 2) [.ref (E.2.1 (v + 13)), .ref (E.2.1 8), .int (nI a), .int (nI en), .int (nI i)] σ (fun r τ => (r = 1 ∧ el_ok σ bv v i a en ∧ el_N σ τ bv v i a) ∨ (r = 0 ∧ ¬ el_ok σ bv v i a en ∧ τ = σ)) := by
  intro sz
  refine cv_in (ws := wsX2_readEntry) (cc := cX2_readEntry) (maxL := 9) (ret := (some .boolean)) (own := RX2) rfl (by decide) rfl (Nat.le_of_ble_eq_true rfl) ?_
  intro p e s m below meth c S K hr hlk hsz h ls hl
  have hl : lv_has ls 9 [(0, .ref (E.2.1 (v + 13))), (1, .ref (E.2.1 8)), (2, .int (nI a)), (3, .int (nI en)), (4, .int (nI i))] := hl
  have hinX0 : ∀ w ∈ u_ws RX0 TX0 1, w ∈ wsX2_readEntry := by decide +kernel
  have hinX2 : ∀ w ∈ u_ws RX2 TX2 4, w ∈ wsX2_readEntry := by decide +kernel
  have hf_15 := S.2.2.2.2 (.fieldLink RX2 15 "CrashVault$EntryList" "olds" "[I") (by decide +kernel)
  have hf_21 := S.2.2.2.2 (.fieldLink RX2 21 "CrashVault$EntryList" "values" "[[J") (by decide +kernel)
  have hf_9 := S.2.2.2.2 (.fieldLink RX2 9 "CrashVault$EntryList" "names" "[J") (by decide +kernel)
  refine lv_iload_n S.1 S.2.1 dX2_readEntry_0 rfl (lv_at hl 2 rfl) ?_
  refine lv_bipush (v := 17) S.1 S.2.1 dX2_readEntry_1 (by decide) ?_
  refine lv_iadd S.1 S.2.1 dX2_readEntry_3 ?_
  refine cv_rei (show (((nI a)) + 17) = nI (a + 17) from nI_add a 17) ?_
  refine lv_iload_n S.1 S.2.1 dX2_readEntry_4 rfl (lv_at hl 3 rfl) ?_
  refine lv_icmp_le (tgt := 10) S.1 S.2.1 dX2_readEntry_5 (by decide) (fun c1 => ?_) (fun c1 => ?_)
  · have ha17 : a + 17 ≤ en := (nI_leI (by omega) (by omega)).mp c1
    obtain ⟨hb8, hb256⟩ := hbv (a + 8) (by omega)
    refine lv_aload_n S.1 S.2.1 dX2_readEntry_10 rfl (lv_at hl 1 rfl) ?_
    refine lv_iload_n S.1 S.2.1 dX2_readEntry_11 rfl (lv_at hl 2 rfl) ?_
    refine lv_bipush (v := 8) S.1 S.2.1 dX2_readEntry_12 (by decide) ?_
    refine cv_calll (ci := 0) (C := RX0) (T := TX0) (N := 1) S K h hl.1 rfl rfl rfl (c_numberAt l E σ a 8 (by omega)) (cwV 2 S.2.2.2.2 gX2_readEntry_X0_numberAt rfl rfl rfl (by decide +kernel) ⟨Nat.le_of_ble_eq_true rfl, Nat.le_of_ble_eq_true rfl⟩) rfl rfl (Nat.le_of_ble_eq_true rfl) ⟨Nat.zero_le _, Nat.zero_le _⟩ dX2_readEntry_14 (fun rn σ1 H locs ⟨hq1, hs9⟩ h => ?_)
    rw [hs9] at h
    rw [pu_num_p hbv (by omega)] at hq1
    subst hq1
    refine lv_lstore (lv' := [(5, .long (lN (nv bv a 8))), (0, .ref (E.2.1 (v + 13))), (1, .ref (E.2.1 8)), (2, .int (nI a)), (3, .int (nI en)), (4, .int (nI i))]) S.1 S.2.1 dX2_readEntry_17 hl (by decide) rfl (fun ls hl => ?_)
    refine lv_aload_n S.1 S.2.1 dX2_readEntry_19 rfl (lv_at hl 2 rfl) ?_
    refine cv_gfN (ci := 0) (C := RX0) (T := TX0) (N := 1) (v := .ref (E.2.1 9)) S K h 8 rfl hinX0 rfl rfl 0 (by decide) (cv_nest_12 K) rfl rfl dX2_readEntry_20 ?_
    refine lv_iload_n S.1 S.2.1 dX2_readEntry_23 rfl (lv_at hl 3 rfl) ?_
    refine lv_bipush (v := 8) S.1 S.2.1 dX2_readEntry_24 (by decide) ?_
    refine lv_iadd S.1 S.2.1 dX2_readEntry_26 ?_
    refine cv_iald S K h 9 rfl (n := 300) rfl (a + 8) (nI_add a 8) (by omega) dX2_readEntry_27 ?_
    refine cv_rei (show (σ.1 9 (a + 8)) = nI (bv (a + 8)) from hb8) ?_
    refine lv_istore (lv' := [(7, .int (nI (bv (a + 8)))), (5, .long (lN (nv bv a 8))), (0, .ref (E.2.1 (v + 13))), (1, .ref (E.2.1 8)), (2, .int (nI a)), (3, .int (nI en)), (4, .int (nI i))]) S.1 S.2.1 dX2_readEntry_28 hl (by decide) rfl (fun ls hl => ?_)
    refine lv_lload S.1 S.2.1 dX2_readEntry_30 (lv_at hl 1 rfl) ?_
    refine lv_lconst (v := 0) S.1 S.2.1 dX2_readEntry_32 (by decide) ?_
    refine W.lcmp S.1 S.2.1 dX2_readEntry_33 ?_
    have key59 : ∀ (H : Heap) (locs : List Loc) (ls : Array Slot), lN (nv bv a 8) ≠ 0 → (i = 0 ∨ σ.2.1 (v + 16) (i - 1) < lN (nv bv a 8)) → cv_H E σ s H locs → lv_has ls 9 [(7, .int (nI (bv (a + 8)))), (5, .long (lN (nv bv a 8))), (0, .ref (E.2.1 (v + 13))), (1, .ref (E.2.1 8)), (2, .int (nI a)), (3, .int (nI en)), (4, .int (nI i))] → W p l e (cv_R 2) s m ([.ref (E.2.1 (v + 13)), .ref (E.2.1 8), .int (nI a), .int (nI en), .int (nI i)] : List Value).toArray below meth c H locs 0 0 (MQ below (va_Qi (fun r τ => (r = 1 ∧ el_ok σ bv v i a en ∧ el_N σ τ bv v i a) ∨ (r = 0 ∧ ¬ el_ok σ bv v i a en ∧ τ = σ)) (cv_B E) (cv_A E sz)) ([.ref (E.2.1 (v + 13)), .ref (E.2.1 8), .int (nI a), .int (nI en), .int (nI i)] : List Value).toArray s 0 0 (cv_A E sz)) (F0 m 59 ls []) := by
      intro H locs ls g1 g2 h hl
      refine lv_iload S.1 S.2.1 dX2_readEntry_59 (lv_at hl 0 rfl) ?_
      refine lv_iconst (v := 2) S.1 S.2.1 dX2_readEntry_61 (by decide) ?_
      refine lv_icmp_gt (tgt := 79) S.1 S.2.1 dX2_readEntry_62 (by decide) (fun c3 => ?_) (fun c3 => ?_)
      · refine lv_iconst (v := 0) S.1 S.2.1 dX2_readEntry_79 (by decide) ?_
        exact cv_zret S hr (Or.inl rfl) hlk hsz h (Or.inr ⟨rfl, fun q => absurd c3 (nI_nlt (b := bv (a + 8)) (a := 2) q.2.2.2.1 (by decide)), rfl⟩) dX2_readEntry_80
      · have hb2 : bv (a + 8) ≤ 2 := Nat.not_lt.mp (fun q => c3 (nI_lt (a := 2) q (by omega)))
        refine lv_iload_n S.1 S.2.1 dX2_readEntry_65 rfl (lv_at hl 4 rfl) ?_
        refine lv_bipush (v := 17) S.1 S.2.1 dX2_readEntry_66 (by decide) ?_
        refine lv_iadd S.1 S.2.1 dX2_readEntry_68 ?_
        refine cv_rei (show (((nI a)) + 17) = nI (a + 17) from nI_add a 17) ?_
        refine lv_bipush (v := 8) S.1 S.2.1 dX2_readEntry_69 (by decide) ?_
        refine lv_iload S.1 S.2.1 dX2_readEntry_71 (lv_at hl 0 rfl) ?_
        refine lv_imul S.1 S.2.1 dX2_readEntry_73 ?_
        refine cv_rei (show (8 * ((nI (bv (a + 8))))) = nI (8 * bv (a + 8)) from pk_mul 8 _) ?_
        refine lv_iadd S.1 S.2.1 dX2_readEntry_74 ?_
        refine cv_rei (show (((nI (a + 17))) + ((nI (8 * bv (a + 8))))) = nI (a + 17 + 8 * bv (a + 8)) from nI_add _ _) ?_
        refine lv_iload_n S.1 S.2.1 dX2_readEntry_75 rfl (lv_at hl 5 rfl) ?_
        refine lv_icmp_le (tgt := 81) S.1 S.2.1 dX2_readEntry_76 (by decide) (fun c4 => ?_) (fun c4 => ?_)
        · have hend : a + 17 + 8 * bv (a + 8) ≤ en := (nI_leI (by omega) (by omega)).mp c4
          refine lv_aload_n S.1 S.2.1 dX2_readEntry_81 rfl (lv_at hl 2 rfl) ?_
          refine cv_gf (ci := 2) (C := RX2) (T := TX2) (N := 4) (v := .ref (E.2.1 (v + 16))) S K h (v + 13) (cv_kdV v hv).2.1 hinX2 (cv_fsL hv) rfl 0 (by decide) hf_9 rfl rfl dX2_readEntry_82 ?_
          refine lv_iload S.1 S.2.1 dX2_readEntry_85 (lv_at hl 6 rfl) ?_
          refine lv_lload S.1 S.2.1 dX2_readEntry_87 (lv_at hl 1 rfl) ?_
          refine cv_last (x := (lN (nv bv a 8))) S K h (v + 16) (cv_kdV v hv).2.2.1 (cv_kdV v hv).2.2.2.2.2.1 i rfl hi8 dX2_readEntry_89 (fun σ2 H locs eσ2 h => ?_)
          refine lv_aload_n S.1 S.2.1 dX2_readEntry_90 rfl (lv_at hl 2 rfl) ?_
          refine cv_gf (ci := 2) (C := RX2) (T := TX2) (N := 4) (v := .ref (E.2.1 (v + 19))) S K h (v + 13) (cv_kdV v hv).2.1 hinX2 (cv_fsL hv) rfl 1 (by decide) hf_15 rfl rfl dX2_readEntry_91 ?_
          refine lv_iload S.1 S.2.1 dX2_readEntry_94 (lv_at hl 6 rfl) ?_
          refine lv_iload S.1 S.2.1 dX2_readEntry_96 (lv_at hl 0 rfl) ?_
          refine cv_iast (x := (nI (bv (a + 8)))) S K h (v + 19) (cv_kdV v hv).2.2.2.1 (cv_kdV v hv).2.2.2.2.2.2 i rfl hi8 dX2_readEntry_98 (fun σ3 H locs eσ3 h => ?_)
          refine lv_iconst (v := 0) S.1 S.2.1 dX2_readEntry_99 (by decide) ?_
          refine lv_istore (lv' := [(8, .int 0), (7, .int (nI (bv (a + 8)))), (5, .long (lN (nv bv a 8))), (0, .ref (E.2.1 (v + 13))), (1, .ref (E.2.1 8)), (2, .int (nI a)), (3, .int (nI en)), (4, .int (nI i))]) S.1 S.2.1 dX2_readEntry_100 hl (by decide) rfl (fun ls hl => ?_)
          have hst : σ3.1 = va_up σ.1 (v + 19) (upd (σ.1 (v + 19)) i (nI (bv (a + 8)))) ∧ σ3.2.2 = σ.2.2 ∧ σ3.2.1 (v + 16) = vp_updL (σ.2.1 (v + 16)) i (lN (nv bv a 8)) ∧ (∀ q, q < 0 → σ3.2.1 (8 * v + i + 25) q = lN (nv bv (a + 9 + 8 * q) 8)) ∧ (∀ q, q ≠ v + 16 → q ≠ 8 * v + i + 25 → σ3.2.1 q = σ.2.1 q) := by
            have r3 : ∀ q, σ3.2.1 q = if q = v + 16 then vp_updL (σ.2.1 (v + 16)) i (lN (nv bv a 8)) else σ.2.1 q := fun q => by rw [eσ3, cv_I2, eσ2]; rfl
            exact ⟨by rw [eσ3, eσ2]; rfl, by rw [eσ3, eσ2]; rfl, by rw [r3, if_pos rfl], fun q hq => absurd hq (Nat.not_lt_zero q), fun q h1 _ => by rw [r3, if_neg h1]⟩
          refine cv_loop (α := Unit) (nL := 9) (bv (a + 8) + 1) (fun k _ τ => τ.1 = va_up σ.1 (v + 19) (upd (σ.1 (v + 19)) i (nI (bv (a + 8)))) ∧ τ.2.2 = σ.2.2 ∧ τ.2.1 (v + 16) = vp_updL (σ.2.1 (v + 16)) i (lN (nv bv a 8)) ∧ (∀ q, q < k → τ.2.1 (8 * v + i + 25) q = lN (nv bv (a + 9 + 8 * q) 8)) ∧ (∀ q, q ≠ v + 16 → q ≠ 8 * v + i + 25 → τ.2.1 q = σ.2.1 q)) (fun k _ => [(8, .int (nI k)), (7, .int (nI (bv (a + 8)))), (5, .long (lN (nv bv a 8))), (0, .ref (E.2.1 (v + 13))), (1, .ref (E.2.1 8)), (2, .int (nI a)), (3, .int (nI en)), (4, .int (nI i))]) ?_ ?_ 0 () σ3 _ _ _ (by omega) hst h hl
          · intro k _ τ H locs ls hi hI h hl ih
            have hl : lv_has ls 9 [(8, .int (nI k)), (7, .int (nI (bv (a + 8)))), (5, .long (lN (nv bv a 8))), (0, .ref (E.2.1 (v + 13))), (1, .ref (E.2.1 8)), (2, .int (nI a)), (3, .int (nI en)), (4, .int (nI i))] := hl
            obtain ⟨j1, j2, j3, j4, j5⟩ := hI
            have jb : by_R (τ.1 9) bv 300 := by rw [j1, va_up_ne _ _ (by omega)]; exact hbv
            refine lv_iload S.1 S.2.1 dX2_readEntry_102 (lv_at hl 0 rfl) ?_
            refine lv_iload S.1 S.2.1 dX2_readEntry_104 (lv_at hl 1 rfl) ?_
            refine lv_icmp_gt (tgt := 141) S.1 S.2.1 dX2_readEntry_106 (by decide) (fun c5 => ?_) (fun c5 => ?_)
            · exact absurd c5 (nI_nlt (by omega) (by omega))
            · refine lv_aload_n S.1 S.2.1 dX2_readEntry_109 rfl (lv_at hl 3 rfl) ?_
              refine cv_gf (ci := 2) (C := RX2) (T := TX2) (N := 4) (v := .ref (E.2.1 (v + 22))) S K h (v + 13) (cv_kdV v hv).2.1 hinX2 (cv_fsL hv) rfl 2 (by decide) hf_21 rfl rfl dX2_readEntry_110 ?_
              refine lv_iload S.1 S.2.1 dX2_readEntry_113 (lv_at hl 7 rfl) ?_
              refine cv_aald S K h v hv i rfl hi8 dX2_readEntry_115 ?_
              refine lv_iload S.1 S.2.1 dX2_readEntry_116 (lv_at hl 0 rfl) ?_
              refine lv_aload_n S.1 S.2.1 dX2_readEntry_118 rfl (lv_at hl 4 rfl) ?_
              refine lv_iload_n S.1 S.2.1 dX2_readEntry_119 rfl (lv_at hl 5 rfl) ?_
              refine lv_bipush (v := 9) S.1 S.2.1 dX2_readEntry_120 (by decide) ?_
              refine lv_iadd S.1 S.2.1 dX2_readEntry_122 ?_
              refine cv_rei (show (((nI a)) + 9) = nI (a + 9) from nI_add a 9) ?_
              refine lv_bipush (v := 8) S.1 S.2.1 dX2_readEntry_123 (by decide) ?_
              refine lv_iload S.1 S.2.1 dX2_readEntry_125 (lv_at hl 0 rfl) ?_
              refine lv_imul S.1 S.2.1 dX2_readEntry_127 ?_
              refine cv_rei (show (8 * ((nI k))) = nI (8 * k) from pk_mul 8 k) ?_
              refine lv_iadd S.1 S.2.1 dX2_readEntry_128 ?_
              refine cv_rei (show (((nI (a + 9))) + ((nI (8 * k)))) = nI (a + 9 + 8 * k) from nI_add _ _) ?_
              refine lv_bipush (v := 8) S.1 S.2.1 dX2_readEntry_129 (by decide) ?_
              refine cv_calll (ci := 0) (C := RX0) (T := TX0) (N := 1) S K h hl.1 rfl rfl rfl (c_numberAt l E τ (a + 9 + 8 * k) 8 (by omega)) (cwV 2 S.2.2.2.2 gX2_readEntry_X0_numberAt rfl rfl rfl (by decide +kernel) ⟨Nat.le_of_ble_eq_true rfl, Nat.le_of_ble_eq_true rfl⟩) rfl rfl (Nat.le_of_ble_eq_true rfl) ⟨Nat.zero_le _, Nat.zero_le _⟩ dX2_readEntry_131 (fun rm σ4 H locs ⟨hq2, hs9⟩ h => ?_)
              rw [hs9] at h
              rw [pu_num_p jb (by omega)] at hq2
              subst hq2
              refine cv_last (x := (lN (nv bv (a + 9 + 8 * k) 8))) S K h (8 * v + i + 25) (cv_kdR v hv i hi8).1 (cv_kdR v hv i hi8).2 k rfl (by omega) dX2_readEntry_134 (fun σ5 H locs eσ5 h => ?_)
              obtain ⟨z8, ez8⟩ : ∃ y : Int32, y = ((nI k)) + 1 := ⟨_, rfl⟩
              refine lv_iinc (v := z8) (lv' := [(8, .int z8), (7, .int (nI (bv (a + 8)))), (5, .long (lN (nv bv a 8))), (0, .ref (E.2.1 (v + 13))), (1, .ref (E.2.1 8)), (2, .int (nI a)), (3, .int (nI en)), (4, .int (nI i))]) S.1 S.2.1 dX2_readEntry_135 hl (k := 0) rfl (by rw [ez8]; rfl) (by decide) rfl (fun ls hl => ?_)
              refine lv_goto (tgt := 102) S.1 S.2.1 dX2_readEntry_138 (by decide) ?_
              rw [ez8, nI_1] at hl
              have r3 : ∀ q, σ5.2.1 q = if q = 8 * v + i + 25 then vp_updL (τ.2.1 (8 * v + i + 25)) k (lN (nv bv (a + 9 + 8 * k) 8)) else τ.2.1 q := fun q => by rw [eσ5]; rfl
              refine ih () σ5 H locs ls ⟨by rw [eσ5]; exact j1, by rw [eσ5]; exact j2, by rw [r3, if_neg (by omega)]; exact j3, fun q hq => ?_, fun q h1 h2 => by rw [r3, if_neg h2]; exact j5 q h1 h2⟩ h hl
              rw [r3, if_pos rfl]
              by_cases hqk : q = k
              · rw [hqk, pk_uLs]
              · rw [pk_uLn hqk]; exact j4 q (by omega)
          · intro _ τ H locs ls hI h hl
            have hl : lv_has ls 9 [(8, .int (nI (bv (a + 8) + 1))), (7, .int (nI (bv (a + 8)))), (5, .long (lN (nv bv a 8))), (0, .ref (E.2.1 (v + 13))), (1, .ref (E.2.1 8)), (2, .int (nI a)), (3, .int (nI en)), (4, .int (nI i))] := hl
            obtain ⟨j1, j2, j3, j4, j5⟩ := hI
            refine lv_iload S.1 S.2.1 dX2_readEntry_102 (lv_at hl 0 rfl) ?_
            refine lv_iload S.1 S.2.1 dX2_readEntry_104 (lv_at hl 1 rfl) ?_
            refine lv_icmp_gt (tgt := 141) S.1 S.2.1 dX2_readEntry_106 (by decide) (fun c5 => ?_) (fun c5 => ?_)
            · refine lv_iconst (v := 1) S.1 S.2.1 dX2_readEntry_141 (by decide) ?_
              refine cv_zret S hr (Or.inr rfl) hlk hsz h (Or.inl ⟨rfl, ⟨ha17, g1, g2, hb2, hend⟩, by rw [j3, pk_uLs], by rw [j1, va_up_self, pk_us], fun k hk => j4 k (by omega), fun q hq hqi => ⟨by rw [j3, pk_uLn hqi], by rw [j1, va_up_self, pk_un hqi], fun k _ => by rw [j5 _ (by omega) (by omega)]⟩, ⟨fun k hk => by rw [j1, va_up_ne _ _ hk], fun k h1 h2 => j5 k h1 (h2 i hi8), fun k q _ => by rw [j2], by rw [j2]⟩, j2⟩) dX2_readEntry_142
            · exact absurd (nI_lt (Nat.lt_succ_self _) (by omega)) c5
        · refine lv_iconst (v := 0) S.1 S.2.1 dX2_readEntry_79 (by decide) ?_
          exact cv_zret S hr (Or.inl rfl) hlk hsz h (Or.inr ⟨rfl, fun q => c4 (nI_le q.2.2.2.2 (by omega)), rfl⟩) dX2_readEntry_80
    refine lv_if_eq (tgt := 57) S.1 S.2.1 dX2_readEntry_34 (by decide) (fun c2 => ?_) (fun c2 => ?_)
    · refine lv_iconst (v := 0) S.1 S.2.1 dX2_readEntry_57 (by decide) ?_
      exact cv_zret S hr (Or.inl rfl) hlk hsz h (Or.inr ⟨rfl, fun q => q.2.1 (lg_eq0.mp c2), rfl⟩) dX2_readEntry_58
    · have hn0 : lN (nv bv a 8) ≠ 0 := fun q => c2 (lg_eq0.mpr q)
      refine lv_iload S.1 S.2.1 dX2_readEntry_37 (lv_at hl 6 rfl) ?_
      refine lv_if_le (tgt := 59) S.1 S.2.1 dX2_readEntry_39 (by decide) (fun c6 => ?_) (fun c6 => ?_)
      · exact key59 H locs ls hn0 (Or.inl (Nat.le_zero.mp ((nI_leI (b := 0) (by omega) (by decide)).mp c6))) h hl
      · have hi0 : i ≠ 0 := fun q => c6 (by rw [q]; decide)
        refine lv_lload S.1 S.2.1 dX2_readEntry_42 (lv_at hl 1 rfl) ?_
        refine lv_aload_n S.1 S.2.1 dX2_readEntry_44 rfl (lv_at hl 2 rfl) ?_
        refine cv_gf (ci := 2) (C := RX2) (T := TX2) (N := 4) (v := .ref (E.2.1 (v + 16))) S K h (v + 13) (cv_kdV v hv).2.1 hinX2 (cv_fsL hv) rfl 0 (by decide) hf_9 rfl rfl dX2_readEntry_45 ?_
        refine lv_iload S.1 S.2.1 dX2_readEntry_48 (lv_at hl 6 rfl) ?_
        refine lv_iconst (v := 1) S.1 S.2.1 dX2_readEntry_50 (by decide) ?_
        refine lv_isub S.1 S.2.1 dX2_readEntry_51 ?_
        refine cv_rei (show (((nI i)) - 1) = nI (i - 1) from pk_sub (b := 1) (by omega)) ?_
        refine cv_lald S K h (v + 16) (cv_kdV v hv).2.2.1 (cv_kdV v hv).2.2.2.2.2.1 (i - 1) rfl (by omega) dX2_readEntry_52 ?_
        refine W.lcmp S.1 S.2.1 dX2_readEntry_53 ?_
        refine lv_if_gt (tgt := 59) S.1 S.2.1 dX2_readEntry_54 (by decide) (fun c7 => ?_) (fun c7 => ?_)
        · exact key59 H locs ls hn0 (Or.inr (lg_gt0.mp (fun q => absurd c7 (Int32.not_lt.mpr q)))) h hl
        · refine lv_iconst (v := 0) S.1 S.2.1 dX2_readEntry_57 (by decide) ?_
          exact cv_zret S hr (Or.inl rfl) hlk hsz h (Or.inr ⟨rfl, fun q => q.2.2.1.elim hi0 (fun q => absurd (Int32.not_lt.mp c7) (lg_gt0.mpr q)), rfl⟩) dX2_readEntry_58
  · refine lv_iconst (v := 0) S.1 S.2.1 dX2_readEntry_8 (by decide) ?_
    refine cv_zret S hr (Or.inl rfl) hlk hsz h (Or.inr ⟨rfl, fun q => c1 (nI_le q.1 (by omega)), rfl⟩) dX2_readEntry_9
