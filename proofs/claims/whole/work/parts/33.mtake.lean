/-! 33: the reference: take, newest -/
/-- what newest answers: which of two good slots is the newest -/
def nwR (r : Int32) (b0 b1 : Nat → Nat) (pw : Int64) : Prop := (r = 0 ∧ gd b0 pw ∧ (gd b1 pw → nI (nv b1 2 4) ≤ nI (nv b0 2 4))) ∨ (r = 1 ∧ gd b1 pw ∧ (gd b0 pw → nI (nv b0 2 4) < nI (nv b1 2 4))) ∨ (r = -1 ∧ ¬ gd b0 pw ∧ ¬ gd b1 pw)
theorem nwR_one {r r' : Int32} {b0 b1 : Nat → Nat} {pw : Int64} (h : nwR r b0 b1 pw) (h' : nwR r' b0 b1 pw) : r = r' := by
  rcases h with ⟨a1, a2, a3⟩ | ⟨a1, a2, a3⟩ | ⟨a1, a2, a3⟩ <;> rcases h' with ⟨c1, c2, c3⟩ | ⟨c1, c2, c3⟩ | ⟨c1, c2, c3⟩
  · rw [a1, c1]
  · exact absurd (a3 c2) (Int32.not_le.mpr (c3 a2))
  · exact absurd a2 c2
  · exact absurd (c3 a2) (Int32.not_le.mpr (a3 c2))
  · rw [a1, c1]
  · exact absurd a2 c3
  · exact absurd c2 a2
  · exact absurd c2 a3
  · rw [a1, c1]

set_option maxHeartbeats 4000000 in
set_option maxRecDepth 100000 in
/-- a slot is taken into the file: whether it is good -/
theorem m_take (l : Launch) (E : cv_E) (σ : cv_S) (sl : Nat) (hsl : sl ≤ 1) (bv : Nat → Nat) (hbv : ∀ j, j < 300 → σ.1 50 (300 * sl + j) = nI (bv j) ∧ bv j < 256) (pw : Int64) : cv_Mi l E yX6_take wsX6_take (cv_R 7) [.ref (E.2.1 49), .int (nI sl), .long pw] σ (fun r τ => cv_fr [54, 55, 56, 57, 58] σ τ ∧ by_R (τ.1 58) bv 21 ∧ ((r = 1 ∧ gd bv pw ∧ by_R (τ.1 58) (sp bv pw) 300) ∨ (r = 0 ∧ ¬ gd bv pw))) := by
  intro sz
  refine cv_in (ws := wsX6_take) (cc := cX6_take) (maxL := 5) (ret := (some .boolean)) (own := RX6) rfl (by decide) rfl (Nat.le_of_ble_eq_true rfl) ?_
  intro p e s m below meth c S K hr hlk hsz h ls hl
  have hl : lv_has ls 5 [(0, .ref (E.2.1 49)), (1, .int (nI sl)), (2, .long pw)] := hl
  have hinX6 : ∀ w ∈ u_ws RX6 TX6 18, w ∈ wsX6_take := by decide +kernel
  have hf_35 := S.2.2.2.2 (.fieldLink RX6 35 "CrashVaultModel" "file" "[I") (by decide +kernel)
  have hf_7 := S.2.2.2.2 (.fieldLink RX6 7 "CrashVaultModel" "disk" "[I") (by decide +kernel)
  refine lv_iconst (v := 0) S.1 S.2.1 dX6_take_0 (by decide) ?_
  refine lv_istore (lv' := [(4, .int 0), (0, .ref (E.2.1 49)), (1, .int (nI sl)), (2, .long pw)]) S.1 S.2.1 dX6_take_1 hl (by decide) rfl (fun ls hl => ?_)
  refine cv_loop (α := Unit) (nL := 5) 300 (fun i a τ => cv_fr [54, 55, 56, 57, 58] σ τ ∧ by_R (τ.1 58) bv i) (fun i a => [(4, .int (nI i)), (0, .ref (E.2.1 49)), (1, .int (nI sl)), (2, .long pw)]) ?_ ?_ 0 () σ _ _ _ (by omega) (⟨cv_fr.rf, fun j hj => absurd hj (Nat.not_lt_zero j)⟩) h hl
  · intro i a τ H locs ls hi hI h hl ih
    have hl : lv_has ls 5 [(4, .int (nI i)), (0, .ref (E.2.1 49)), (1, .int (nI sl)), (2, .long pw)] := hl
    refine lv_iload S.1 S.2.1 dX6_take_3 (lv_at hl 0 rfl) ?_
    refine lv_sipush (v := 300) S.1 S.2.1 dX6_take_5 (by decide) ?_
    refine lv_icmp_ge (tgt := 37) S.1 S.2.1 dX6_take_8 (by decide) (fun c1 => ?_) (fun c1 => ?_)
    · exact absurd c1 (nI_ge (b := 300) hi (by decide))
    · refine lv_aload_n S.1 S.2.1 dX6_take_11 rfl (lv_at hl 1 rfl) ?_
      refine cv_gf (ci := 6) (C := RX6) (T := TX6) (N := 18) (v := .ref (E.2.1 58)) S K h 49 rfl hinX6 rfl rfl 16 (by decide) hf_35 rfl rfl dX6_take_12 ?_
      refine lv_iload S.1 S.2.1 dX6_take_15 (lv_at hl 0 rfl) ?_
      refine lv_aload_n S.1 S.2.1 dX6_take_17 rfl (lv_at hl 1 rfl) ?_
      refine cv_gf (ci := 6) (C := RX6) (T := TX6) (N := 18) (v := .ref (E.2.1 50)) S K h 49 rfl hinX6 rfl rfl 1 (by decide) hf_7 rfl rfl dX6_take_18 ?_
      refine lv_sipush (v := 300) S.1 S.2.1 dX6_take_21 (by decide) ?_
      refine lv_iload_n S.1 S.2.1 dX6_take_24 rfl (lv_at hl 2 rfl) ?_
      refine lv_imul S.1 S.2.1 dX6_take_25 ?_
      refine cv_rei (show (300 * ((nI sl))) = nI (300 * sl) from pk_mul 300 sl) ?_
      refine lv_iload S.1 S.2.1 dX6_take_26 (lv_at hl 0 rfl) ?_
      refine lv_iadd S.1 S.2.1 dX6_take_28 ?_
      refine cv_rei (show (((nI (300 * sl))) + ((nI i))) = nI (300 * sl + i) from nI_add _ _) ?_
      refine cv_iald S K h 50 rfl (n := 600) rfl (300 * sl + i) rfl (by omega) dX6_take_29 ?_
      refine lv_topi (fun xv exv => ?_)
      refine cv_iast (x := xv) S K h 58 rfl (n := 300) rfl i rfl hi dX6_take_30 (fun σ14 H locs eσ14 h => ?_)
      obtain ⟨z5, ez5⟩ : ∃ y : Int32, y = ((nI i)) + 1 := ⟨_, rfl⟩
      refine lv_iinc (v := z5) (lv' := [(4, .int z5), (0, .ref (E.2.1 49)), (1, .int (nI sl)), (2, .long pw)]) S.1 S.2.1 dX6_take_31 hl (k := 0) rfl (by rw [ez5]; rfl) (by decide) rfl (fun ls hl => ?_)
      refine lv_goto (tgt := 3) S.1 S.2.1 dX6_take_34 (by decide) ?_
      rw [ez5, nI_1] at hl
      refine ih () σ14 H locs ls ?_ h hl
      rw [eσ14]
      refine ⟨hI.1.trans (cv_fr.up (by decide)), fun j hj => ?_⟩
      rw [cv_I1, if_pos rfl]
      by_cases hji : j = i
      · rw [hji, pk_us, exv, hI.1.1 50 (by decide)]; exact hbv i hi
      · rw [pk_un hji]; exact hI.2 j (by omega)
  · intro a τ H locs ls hI h hl
    have hl : lv_has ls 5 [(4, .int (nI 300)), (0, .ref (E.2.1 49)), (1, .int (nI sl)), (2, .long pw)] := hl
    obtain ⟨f1, b1⟩ := hI
    refine lv_iload S.1 S.2.1 dX6_take_3 (lv_at hl 0 rfl) ?_
    refine lv_sipush (v := 300) S.1 S.2.1 dX6_take_5 (by decide) ?_
    refine lv_icmp_ge (tgt := 37) S.1 S.2.1 dX6_take_8 (by decide) (fun c1 => ?_) (fun c1 => ?_)
    · have bl := fun j hj => (b1 j hj).2
      have h11 := nv2_lt (bl 11 (by decide)) (bl 12 (by decide))
      have b21 : by_R (τ.1 58) bv 21 := fun j hj => b1 j (by omega)
      refine lv_aload_n S.1 S.2.1 dX6_take_37 rfl (lv_at hl 1 rfl) ?_
      refine cv_calli (ci := 6) (C := RX6) (T := TX6) (N := 18) S K h hl.1 rfl rfl rfl (m_lengthInFile l E τ bv b1) (cwV 0 S.2.2.2.2 gX6_take_X6_lengthInFile rfl rfl rfl (by decide +kernel) ⟨Nat.le_of_ble_eq_true rfl, Nat.le_of_ble_eq_true rfl⟩) rfl rfl (Nat.le_of_ble_eq_true rfl) ⟨Nat.zero_le _, Nat.zero_le _⟩ dX6_take_38 (fun n1 σ15 H locs ⟨hn1, hs9⟩ h => ?_)
      rw [hs9] at h
      subst hn1
      refine lv_istore (lv' := [(4, .int (nI (nv bv 11 2))), (0, .ref (E.2.1 49)), (1, .int (nI sl)), (2, .long pw)]) S.1 S.2.1 dX6_take_41 hl (by decide) rfl (fun ls hl => ?_)
      have key96 : ∀ (H : Heap) (locs : List Loc) (ls : Array Slot), ¬ gh bv → cv_H E τ s H locs → lv_has ls 5 [(4, .int (nI (nv bv 11 2))), (0, .ref (E.2.1 49)), (1, .int (nI sl)), (2, .long pw)] → W p l e (cv_R 7) s m ([.ref (E.2.1 49), .int (nI sl), .long pw] : List Value).toArray below meth c H locs 0 0 (MQ below (va_Qi (fun r τ => cv_fr [54, 55, 56, 57, 58] σ τ ∧ by_R (τ.1 58) bv 21 ∧ ((r = 1 ∧ gd bv pw ∧ by_R (τ.1 58) (sp bv pw) 300) ∨ (r = 0 ∧ ¬ gd bv pw))) (cv_B E) (cv_A E sz)) ([.ref (E.2.1 49), .int (nI sl), .long pw] : List Value).toArray s 0 0 (cv_A E sz)) (F0 m 96 ls []) := by
        intro H locs ls hng h hl
        refine lv_iconst (v := 0) S.1 S.2.1 dX6_take_96 (by decide) ?_
        exact cv_zret S hr (Or.inl rfl) hlk hsz h ⟨f1, b21, Or.inr ⟨rfl, fun g => hng g.1⟩⟩ dX6_take_97
      refine lv_aload_n S.1 S.2.1 dX6_take_43 rfl (lv_at hl 1 rfl) ?_
      refine cv_gf (ci := 6) (C := RX6) (T := TX6) (N := 18) (v := .ref (E.2.1 58)) S K h 49 rfl hinX6 rfl rfl 16 (by decide) hf_35 rfl rfl dX6_take_44 ?_
      refine lv_iconst (v := 0) S.1 S.2.1 dX6_take_47 (by decide) ?_
      refine cv_iald S K h 58 rfl (n := 300) rfl 0 rfl (by decide) dX6_take_48 ?_
      refine cv_rei (show (τ.1 58 0) = nI (bv 0) from (b1 0 (by decide)).1) ?_
      refine lv_bipush (v := 86) S.1 S.2.1 dX6_take_49 (by decide) ?_
      refine lv_icmp_ne (tgt := 96) S.1 S.2.1 dX6_take_51 (by decide) (fun c2 => ?_) (fun c2 => ?_)
      · exact key96 H locs ls (fun g => c2 (by rw [g.1]; rfl)) h hl
      · have k0 : bv 0 = 86 := (nI_eq (b := 86) (by have := bl 0 (by decide); omega) (by decide)).mp c2
        refine lv_aload_n S.1 S.2.1 dX6_take_54 rfl (lv_at hl 1 rfl) ?_
        refine cv_gf (ci := 6) (C := RX6) (T := TX6) (N := 18) (v := .ref (E.2.1 58)) S K h 49 rfl hinX6 rfl rfl 16 (by decide) hf_35 rfl rfl dX6_take_55 ?_
        refine lv_iconst (v := 1) S.1 S.2.1 dX6_take_58 (by decide) ?_
        refine cv_iald S K h 58 rfl (n := 300) rfl 1 rfl (by decide) dX6_take_59 ?_
        refine cv_rei (show (τ.1 58 1) = nI (bv 1) from (b1 1 (by decide)).1) ?_
        refine lv_bipush (v := 50) S.1 S.2.1 dX6_take_60 (by decide) ?_
        refine lv_icmp_ne (tgt := 96) S.1 S.2.1 dX6_take_62 (by decide) (fun c3 => ?_) (fun c3 => ?_)
        · exact key96 H locs ls (fun g => c3 (by rw [g.2.1]; rfl)) h hl
        · have k1 : bv 1 = 50 := (nI_eq (b := 50) (by have := bl 1 (by decide); omega) (by decide)).mp c3
          have b10 := bl 10 (by decide)
          refine lv_aload_n S.1 S.2.1 dX6_take_65 rfl (lv_at hl 1 rfl) ?_
          refine cv_gf (ci := 6) (C := RX6) (T := TX6) (N := 18) (v := .ref (E.2.1 58)) S K h 49 rfl hinX6 rfl rfl 16 (by decide) hf_35 rfl rfl dX6_take_66 ?_
          refine lv_bipush (v := 10) S.1 S.2.1 dX6_take_69 (by decide) ?_
          refine cv_iald S K h 58 rfl (n := 300) rfl 10 rfl (by decide) dX6_take_71 ?_
          refine cv_rei (show (τ.1 58 10) = nI (bv 10) from (b1 10 (by decide)).1) ?_
          refine lv_iconst (v := 1) S.1 S.2.1 dX6_take_72 (by decide) ?_
          refine lv_icmp_lt (tgt := 96) S.1 S.2.1 dX6_take_73 (by decide) (fun c4 => ?_) (fun c4 => ?_)
          · exact key96 H locs ls (fun g => absurd c4 (nI_nlt (b := 1) g.2.2.1 (by omega))) h hl
          · have k2 : 1 ≤ bv 10 := Nat.not_lt.mp (fun g => c4 (nI_lt (b := 1) g (by decide)))
            refine lv_aload_n S.1 S.2.1 dX6_take_76 rfl (lv_at hl 1 rfl) ?_
            refine cv_gf (ci := 6) (C := RX6) (T := TX6) (N := 18) (v := .ref (E.2.1 58)) S K h 49 rfl hinX6 rfl rfl 16 (by decide) hf_35 rfl rfl dX6_take_77 ?_
            refine lv_bipush (v := 10) S.1 S.2.1 dX6_take_80 (by decide) ?_
            refine cv_iald S K h 58 rfl (n := 300) rfl 10 rfl (by decide) dX6_take_82 ?_
            refine cv_rei (show (τ.1 58 10) = nI (bv 10) from (b1 10 (by decide)).1) ?_
            refine lv_bipush (v := 40) S.1 S.2.1 dX6_take_83 (by decide) ?_
            refine lv_icmp_gt (tgt := 96) S.1 S.2.1 dX6_take_85 (by decide) (fun c5 => ?_) (fun c5 => ?_)
            · exact key96 H locs ls (fun g => absurd c5 (nI_nlt (a := 40) g.2.2.2.1 (by decide))) h hl
            · have k3 : bv 10 ≤ 40 := Nat.not_lt.mp (fun g => c5 (nI_lt (a := 40) g (by omega)))
              refine lv_iload S.1 S.2.1 dX6_take_88 (lv_at hl 0 rfl) ?_
              refine lv_sipush (v := 271) S.1 S.2.1 dX6_take_90 (by decide) ?_
              refine lv_icmp_le (tgt := 98) S.1 S.2.1 dX6_take_93 (by decide) (fun c6 => ?_) (fun c6 => ?_)
              · have k4 : sn bv + 8 ≤ 300 := by have := (nI_leI (b := 271) (by omega) (by decide)).mp c6; unfold sn; omega
                have k5 : gh bv := ⟨k0, k1, k2, k3, k4⟩
                have hsn : sn bv = 21 + nv bv 11 2 := rfl
                refine lv_aload_n S.1 S.2.1 dX6_take_98 rfl (lv_at hl 1 rfl) ?_
                refine lv_lload_n S.1 S.2.1 dX6_take_99 rfl (lv_at hl 3 rfl) ?_
                refine lv_aload_n S.1 S.2.1 dX6_take_100 rfl (lv_at hl 1 rfl) ?_
                refine lv_bipush (v := 6) S.1 S.2.1 dX6_take_101 (by decide) ?_
                refine cv_calli (ci := 6) (C := RX6) (T := TX6) (N := 18) S K h hl.1 rfl rfl rfl (m_intAt l E τ bv 300 (Nat.le_refl _) b1 6 (by decide)) (cwV 1 S.2.2.2.2 gX6_take_X6_intAt rfl rfl rfl (by decide +kernel) ⟨Nat.le_of_ble_eq_true rfl, Nat.le_of_ble_eq_true rfl⟩) rfl rfl (Nat.le_of_ble_eq_true rfl) ⟨Nat.zero_le _, Nat.zero_le _⟩ dX6_take_103 (fun n2 σ16 H locs ⟨hn2, hs9⟩ h => ?_)
                rw [hs9] at h
                subst hn2
                refine lv_aload_n S.1 S.2.1 dX6_take_106 rfl (lv_at hl 1 rfl) ?_
                refine cv_gf (ci := 6) (C := RX6) (T := TX6) (N := 18) (v := .ref (E.2.1 58)) S K h 49 rfl hinX6 rfl rfl 16 (by decide) hf_35 rfl rfl dX6_take_107 ?_
                refine lv_bipush (v := 10) S.1 S.2.1 dX6_take_110 (by decide) ?_
                refine cv_iald S K h 58 rfl (n := 300) rfl 10 rfl (by decide) dX6_take_112 ?_
                refine cv_rei (show (τ.1 58 10) = nI (bv 10) from (b1 10 (by decide)).1) ?_
                refine cv_callv (ci := 6) (C := RX6) (T := TX6) (N := 18) S K h hl.1 rfl rfl rfl (m_makeMain l E τ pw (nI (nv bv 6 4)) (bv 10) k3) (cwV 3 S.2.2.2.2 gX6_take_X6_makeMain rfl rfl rfl (by decide +kernel) ⟨Nat.le_of_ble_eq_true rfl, Nat.le_of_ble_eq_true rfl⟩) rfl rfl (Nat.le_of_ble_eq_true rfl) ⟨Nat.zero_le _, Nat.zero_le _⟩ dX6_take_113 (fun σ17 H locs hk h => ?_)
                have hkk : pu_eq 4 (σ17.1 57) (sk bv pw) := hk.2
                have f2 : cv_fr [54, 55, 56, 57, 58] σ σ17 ∧ σ17.1 58 = τ.1 58 := ⟨f1.trans (hk.1.mono (by decide)), hk.1.1 58 (by decide)⟩
                have b2 : by_R (σ17.1 58) bv 300 := by rw [f2.2]; exact b1
                refine lv_aload_n S.1 S.2.1 dX6_take_116 rfl (lv_at hl 1 rfl) ?_
                refine lv_bipush (v := 13) S.1 S.2.1 dX6_take_117 (by decide) ?_
                refine lv_iconst (v := 3) S.1 S.2.1 dX6_take_119 (by decide) ?_
                refine cv_calli (ci := 6) (C := RX6) (T := TX6) (N := 18) S K h hl.1 rfl rfl rfl (m_isSealed l E σ17 bv b2 13 (by decide) 3) (cwV 2 S.2.2.2.2 gX6_take_X6_isSealed rfl rfl rfl (by decide +kernel) ⟨Nat.le_of_ble_eq_true rfl, Nat.le_of_ble_eq_true rfl⟩) rfl rfl (Nat.le_of_ble_eq_true rfl) ⟨Nat.zero_le _, Nat.zero_le _⟩ dX6_take_120 (fun v1 σ18 H locs hs1 h => ?_)
                have e1 : pu_sl (σ17.1 57) (σ17.1 58) 13 3 = pu_sl (sk bv pw) (nf bv) 13 3 := pu_sl_eq hkk ((by_nf b2).le (by decide)) 3
                rw [e1] at hs1
                have f3 : cv_fr [54, 55, 56, 57, 58] σ σ18 ∧ σ18.1 58 = τ.1 58 ∧ pu_eq 4 (σ18.1 57) (sk bv pw) := ⟨f2.1.trans (hs1.1.mono (by decide)), (hs1.1.1 58 (by decide)).trans f2.2, by rw [hs1.1.1 57 (by decide)]; exact hkk⟩
                have b3 : by_R (σ18.1 58) bv 300 := by rw [f3.2.1]; exact b1
                rcases hs1.2 with ⟨hr1, g1⟩ | ⟨hr1, g1⟩
                · subst hr1
                  refine lv_if_eq (tgt := 139) S.1 S.2.1 dX6_take_123 (by decide) (fun d1 => ?_) (fun d1 => ?_)
                  · exact absurd d1 (by decide)
                  · refine lv_aload_n S.1 S.2.1 dX6_take_126 rfl (lv_at hl 1 rfl) ?_
                    refine lv_bipush (v := 21) S.1 S.2.1 dX6_take_127 (by decide) ?_
                    refine lv_iload S.1 S.2.1 dX6_take_129 (lv_at hl 0 rfl) ?_
                    refine lv_iadd S.1 S.2.1 dX6_take_131 ?_
                    refine cv_rei (show (21 + ((nI (nv bv 11 2)))) = nI (sn bv) from nI_add 21 _) ?_
                    refine lv_iconst (v := 4) S.1 S.2.1 dX6_take_132 (by decide) ?_
                    refine cv_calli (ci := 6) (C := RX6) (T := TX6) (N := 18) S K h hl.1 rfl rfl rfl (m_isSealed l E σ18 bv b3 (sn bv) k4 4) (cwV 2 S.2.2.2.2 gX6_take_X6_isSealed rfl rfl rfl (by decide +kernel) ⟨Nat.le_of_ble_eq_true rfl, Nat.le_of_ble_eq_true rfl⟩) rfl rfl (Nat.le_of_ble_eq_true rfl) ⟨Nat.zero_le _, Nat.zero_le _⟩ dX6_take_133 (fun v2 σ19 H locs hs2 h => ?_)
                    have e2 : pu_sl (σ18.1 57) (σ18.1 58) (sn bv) 4 = pu_sl (sk bv pw) (nf bv) (sn bv) 4 := pu_sl_eq f3.2.2 ((by_nf b3).le (by omega)) 4
                    rw [e2] at hs2
                    have f4 : cv_fr [54, 55, 56, 57, 58] σ σ19 ∧ σ19.1 58 = τ.1 58 ∧ pu_eq 4 (σ19.1 57) (sk bv pw) := ⟨f3.1.trans (hs2.1.mono (by decide)), (hs2.1.1 58 (by decide)).trans f3.2.1, by rw [hs2.1.1 57 (by decide)]; exact f3.2.2⟩
                    have b4 : by_R (σ19.1 58) bv 300 := by rw [f4.2.1]; exact b1
                    rcases hs2.2 with ⟨hr2, g2⟩ | ⟨hr2, g2⟩
                    · subst hr2
                      refine lv_if_ne (tgt := 141) S.1 S.2.1 dX6_take_136 (by decide) (fun d2 => ?_) (fun d2 => ?_)
                      · refine lv_aload_n S.1 S.2.1 dX6_take_141 rfl (lv_at hl 1 rfl) ?_
                        refine lv_iload S.1 S.2.1 dX6_take_142 (lv_at hl 0 rfl) ?_
                        refine lv_aload_n S.1 S.2.1 dX6_take_144 rfl (lv_at hl 1 rfl) ?_
                        refine lv_iconst (v := 2) S.1 S.2.1 dX6_take_145 (by decide) ?_
                        refine cv_calli (ci := 6) (C := RX6) (T := TX6) (N := 18) S K h hl.1 rfl rfl rfl (m_intAt l E σ19 bv 300 (Nat.le_refl _) b4 2 (by decide)) (cwV 1 S.2.2.2.2 gX6_take_X6_intAt rfl rfl rfl (by decide +kernel) ⟨Nat.le_of_ble_eq_true rfl, Nat.le_of_ble_eq_true rfl⟩) rfl rfl (Nat.le_of_ble_eq_true rfl) ⟨Nat.zero_le _, Nat.zero_le _⟩ dX6_take_146 (fun n3 σ20 H locs ⟨hn3, hs9⟩ h => ?_)
                        rw [hs9] at h
                        subst hn3
                        refine cv_callv (ci := 6) (C := RX6) (T := TX6) (N := 18) S K h hl.1 rfl rfl rfl (m_cover l E σ19 (nv bv 11 2) (by omega) (nI (nv bv 2 4))) (cwV 2 S.2.2.2.2 gX6_take_X6_cover rfl rfl rfl (by decide +kernel) ⟨Nat.le_of_ble_eq_true rfl, Nat.le_of_ble_eq_true rfl⟩) rfl rfl (Nat.le_of_ble_eq_true rfl) ⟨Nat.zero_le _, Nat.zero_le _⟩ dX6_take_149 (fun σ21 H locs hy h => ?_)
                        have b5 : by_R (σ21.1 58) (sp bv pw) 300 := by
                          intro j hj
                          rw [hy.2]
                          unfold sp
                          by_cases hj2 : 21 ≤ j ∧ j < sn bv
                          · rw [if_pos hj2, pu_put_in hj2.1 hj2.2, pu_strm_eq f4.2.2, pu_strm_n, show 21 + (j - 21) = j by omega, (b4 j hj).1, xor_n]
                            exact ⟨rfl, xor_lt (b4 j hj).2 (stn_lt _ _ _)⟩
                          · rw [if_neg hj2, pu_put_out (by omega)]
                            exact b4 j hj
                        have b521 : by_R (σ21.1 58) bv 21 := fun j hj => by rw [hy.2, pu_put_out (Or.inl hj)]; exact b4 j (by omega)
                        refine lv_aload_n S.1 S.2.1 dX6_take_152 rfl (lv_at hl 1 rfl) ?_
                        refine lv_iload S.1 S.2.1 dX6_take_153 (lv_at hl 0 rfl) ?_
                        refine cv_calli (ci := 6) (C := RX6) (T := TX6) (N := 18) S K h hl.1 rfl rfl rfl (m_isContent l E σ21 (sp bv pw) b5 (nv bv 11 2) (by omega)) (cwV 1 S.2.2.2.2 gX6_take_X6_isContent rfl rfl rfl (by decide +kernel) ⟨Nat.le_of_ble_eq_true rfl, Nat.le_of_ble_eq_true rfl⟩) rfl rfl (Nat.le_of_ble_eq_true rfl) ⟨Nat.zero_le _, Nat.zero_le _⟩ dX6_take_155 (fun rr σ22 H locs ⟨hs9, hc⟩ h => ?_)
                        rw [hs9] at h
                        refine cv_zret S hr (hc.elim (fun g => Or.inr g.1) (fun g => Or.inl g.1)) hlk hsz h ⟨f4.1.trans (hy.1.mono (by decide)), b521, ?_⟩ dX6_take_158
                        rcases hc with ⟨q1, q2⟩ | ⟨q1, q2⟩
                        · exact Or.inl ⟨q1, ⟨k5, ⟨g1, g2⟩, q2⟩, b5⟩
                        · exact Or.inr ⟨q1, fun g => q2 g.2.2⟩
                      · exact absurd d2 (by decide)
                    · subst hr2
                      refine lv_if_ne (tgt := 141) S.1 S.2.1 dX6_take_136 (by decide) (fun d2 => ?_) (fun d2 => ?_)
                      · exact absurd rfl d2
                      · refine lv_iconst (v := 0) S.1 S.2.1 dX6_take_139 (by decide) ?_
                        exact cv_zret S hr (Or.inl rfl) hlk hsz h ⟨f4.1, fun j hj => b4 j (by omega), Or.inr ⟨rfl, fun g => g2 g.2.1.2⟩⟩ dX6_take_140
                · subst hr1
                  refine lv_if_eq (tgt := 139) S.1 S.2.1 dX6_take_123 (by decide) (fun d1 => ?_) (fun d1 => ?_)
                  · refine lv_iconst (v := 0) S.1 S.2.1 dX6_take_139 (by decide) ?_
                    exact cv_zret S hr (Or.inl rfl) hlk hsz h ⟨f3.1, fun j hj => b3 j (by omega), Or.inr ⟨rfl, fun g => g1 g.2.1.1⟩⟩ dX6_take_140
                  · exact absurd rfl d1
              · exact key96 H locs ls (fun g => c6 (nI_le (b := 271) (by have := g.2.2.2.2; unfold sn at this; omega) (by decide))) h hl
    · exact absurd (Int32.le_refl _) c1

set_option maxHeartbeats 4000000 in
set_option maxRecDepth 100000 in
/-- the newest good slot -/
theorem m_newest (l : Launch) (E : cv_E) (σ : cv_S) (b0 b1 : Nat → Nat) (h0 : ∀ j, j < 300 → σ.1 50 j = nI (b0 j) ∧ b0 j < 256) (h1 : ∀ j, j < 300 → σ.1 50 (300 + j) = nI (b1 j) ∧ b1 j < 256) (pw : Int64) : cv_Mi l E yX6_newest wsX6_newest (cv_R 8) [.ref (E.2.1 49), .long pw] σ (fun r τ => cv_fr [54, 55, 56, 57, 58] σ τ ∧ nwR r b0 b1 pw) := by
  intro sz
  refine cv_in (ws := wsX6_newest) (cc := cX6_newest) (maxL := 7) (ret := (some .int)) (own := RX6) rfl (by decide) rfl (Nat.le_of_ble_eq_true rfl) ?_
  intro p e s m below meth c S K hr hlk hsz h ls hl
  have hl : lv_has ls 7 [(0, .ref (E.2.1 49)), (1, .long pw)] := hl
  refine lv_aload_n S.1 S.2.1 dX6_newest_0 rfl (lv_at hl 0 rfl) ?_
  refine lv_iconst (v := 0) S.1 S.2.1 dX6_newest_1 (by decide) ?_
  refine lv_lload_n S.1 S.2.1 dX6_newest_2 rfl (lv_at hl 1 rfl) ?_
  refine cv_calli (ci := 6) (C := RX6) (T := TX6) (N := 18) S K h hl.1 rfl rfl rfl (m_take l E σ 0 (by decide) b0 (fun j hj => by rw [Nat.mul_zero, Nat.zero_add]; exact h0 j hj) pw) (cwV 2 S.2.2.2.2 gX6_newest_X6_take rfl rfl rfl (by decide +kernel) ⟨Nat.le_of_ble_eq_true rfl, Nat.le_of_ble_eq_true rfl⟩) rfl rfl (Nat.le_of_ble_eq_true rfl) ⟨Nat.zero_le _, Nat.zero_le _⟩ dX6_newest_3 (fun r0 σ23 H locs ht0 h => ?_)
  refine lv_istore_n (lv' := [(3, .int r0), (0, .ref (E.2.1 49)), (1, .long pw)]) S.1 S.2.1 dX6_newest_6 rfl hl (by decide) rfl (fun ls hl => ?_)
  refine lv_aload_n S.1 S.2.1 dX6_newest_7 rfl (lv_at hl 1 rfl) ?_
  refine lv_iconst (v := 2) S.1 S.2.1 dX6_newest_8 (by decide) ?_
  refine cv_calli (ci := 6) (C := RX6) (T := TX6) (N := 18) S K h hl.1 rfl rfl rfl (m_intAt l E σ23 b0 21 (by decide) ht0.2.1 2 (by decide)) (cwV 1 S.2.2.2.2 gX6_newest_X6_intAt rfl rfl rfl (by decide +kernel) ⟨Nat.le_of_ble_eq_true rfl, Nat.le_of_ble_eq_true rfl⟩) rfl rfl (Nat.le_of_ble_eq_true rfl) ⟨Nat.zero_le _, Nat.zero_le _⟩ dX6_newest_9 (fun n0 σ24 H locs ⟨hi0, hs9⟩ h => ?_)
  rw [hs9] at h
  subst hi0
  refine lv_istore (lv' := [(4, .int (nI (nv b0 2 4))), (3, .int r0), (0, .ref (E.2.1 49)), (1, .long pw)]) S.1 S.2.1 dX6_newest_12 hl (by decide) rfl (fun ls hl => ?_)
  refine lv_aload_n S.1 S.2.1 dX6_newest_14 rfl (lv_at hl 2 rfl) ?_
  refine lv_iconst (v := 1) S.1 S.2.1 dX6_newest_15 (by decide) ?_
  refine lv_lload_n S.1 S.2.1 dX6_newest_16 rfl (lv_at hl 3 rfl) ?_
  refine cv_calli (ci := 6) (C := RX6) (T := TX6) (N := 18) S K h hl.1 rfl rfl rfl (m_take l E σ23 1 (by decide) b1 (fun j hj => by rw [ht0.1.1 50 (by decide), Nat.mul_one]; exact h1 j hj) pw) (cwV 2 S.2.2.2.2 gX6_newest_X6_take rfl rfl rfl (by decide +kernel) ⟨Nat.le_of_ble_eq_true rfl, Nat.le_of_ble_eq_true rfl⟩) rfl rfl (Nat.le_of_ble_eq_true rfl) ⟨Nat.zero_le _, Nat.zero_le _⟩ dX6_newest_17 (fun r1 σ25 H locs ht1 h => ?_)
  refine lv_istore (lv' := [(5, .int r1), (4, .int (nI (nv b0 2 4))), (3, .int r0), (0, .ref (E.2.1 49)), (1, .long pw)]) S.1 S.2.1 dX6_newest_20 hl (by decide) rfl (fun ls hl => ?_)
  refine lv_aload_n S.1 S.2.1 dX6_newest_22 rfl (lv_at hl 3 rfl) ?_
  refine lv_iconst (v := 2) S.1 S.2.1 dX6_newest_23 (by decide) ?_
  refine cv_calli (ci := 6) (C := RX6) (T := TX6) (N := 18) S K h hl.1 rfl rfl rfl (m_intAt l E σ25 b1 21 (by decide) ht1.2.1 2 (by decide)) (cwV 1 S.2.2.2.2 gX6_newest_X6_intAt rfl rfl rfl (by decide +kernel) ⟨Nat.le_of_ble_eq_true rfl, Nat.le_of_ble_eq_true rfl⟩) rfl rfl (Nat.le_of_ble_eq_true rfl) ⟨Nat.zero_le _, Nat.zero_le _⟩ dX6_newest_24 (fun n1 σ26 H locs ⟨hi1, hs9⟩ h => ?_)
  rw [hs9] at h
  subst hi1
  refine lv_istore (lv' := [(6, .int (nI (nv b1 2 4))), (5, .int r1), (4, .int (nI (nv b0 2 4))), (3, .int r0), (0, .ref (E.2.1 49)), (1, .long pw)]) S.1 S.2.1 dX6_newest_27 hl (by decide) rfl (fun ls hl => ?_)
  have hf := ht0.1.trans ht1.1
  have hz0 : (¬ r0 = 0 ↔ gd b0 pw) := by rcases ht0.2.2 with ⟨q1, q2, _⟩ | ⟨q1, q2⟩ <;> rw [q1] <;> simp [q2]
  have hz1 : (¬ r1 = 0 ↔ gd b1 pw) := by rcases ht1.2.2 with ⟨q1, q2, _⟩ | ⟨q1, q2⟩ <;> rw [q1] <;> simp [q2]
  refine lv_iload_n S.1 S.2.1 dX6_newest_29 rfl (lv_at hl 3 rfl) ?_
  refine lv_if_eq (tgt := 49) S.1 S.2.1 dX6_newest_30 (by decide) (fun c1 => ?_) (fun c1 => ?_)
  · refine lv_iload S.1 S.2.1 dX6_newest_49 (lv_at hl 1 rfl) ?_
    refine lv_if_eq (tgt := 58) S.1 S.2.1 dX6_newest_51 (by decide) (fun c9 => ?_) (fun c9 => ?_)
    · refine lv_iconst (v := (-1)) S.1 S.2.1 dX6_newest_58 (by decide) ?_
      exact cv_iret S hr hlk hsz h ⟨hf, Or.inr (Or.inr ⟨rfl, fun q => hz0.mpr q c1, fun q => hz1.mpr q c9⟩)⟩ dX6_newest_59
    · refine lv_iconst (v := 1) S.1 S.2.1 dX6_newest_54 (by decide) ?_
      refine lv_goto (tgt := 59) S.1 S.2.1 dX6_newest_55 (by decide) ?_
      exact cv_iret S hr hlk hsz h ⟨hf, Or.inr (Or.inl ⟨rfl, hz1.mp c9, fun q => absurd c1 (hz0.mpr q)⟩)⟩ dX6_newest_59
  · refine lv_iload S.1 S.2.1 dX6_newest_33 (lv_at hl 1 rfl) ?_
    refine lv_if_eq (tgt := 45) S.1 S.2.1 dX6_newest_35 (by decide) (fun c2 => ?_) (fun c2 => ?_)
    · refine lv_iconst (v := 0) S.1 S.2.1 dX6_newest_45 (by decide) ?_
      refine lv_goto (tgt := 59) S.1 S.2.1 dX6_newest_46 (by decide) ?_
      exact cv_iret S hr hlk hsz h ⟨hf, Or.inl ⟨rfl, hz0.mp c1, fun q => absurd c2 (hz1.mpr q)⟩⟩ dX6_newest_59
    · refine lv_iload S.1 S.2.1 dX6_newest_38 (lv_at hl 2 rfl) ?_
      refine lv_iload S.1 S.2.1 dX6_newest_40 (lv_at hl 0 rfl) ?_
      refine lv_icmp_lt (tgt := 49) S.1 S.2.1 dX6_newest_42 (by decide) (fun c3 => ?_) (fun c3 => ?_)
      · refine lv_iload S.1 S.2.1 dX6_newest_49 (lv_at hl 1 rfl) ?_
        refine lv_if_eq (tgt := 58) S.1 S.2.1 dX6_newest_51 (by decide) (fun c9 => ?_) (fun c9 => ?_)
        · refine lv_iconst (v := (-1)) S.1 S.2.1 dX6_newest_58 (by decide) ?_
          exact cv_iret S hr hlk hsz h ⟨hf, Or.inr (Or.inr ⟨rfl, absurd c9 c2, fun q => hz1.mpr q c9⟩)⟩ dX6_newest_59
        · refine lv_iconst (v := 1) S.1 S.2.1 dX6_newest_54 (by decide) ?_
          refine lv_goto (tgt := 59) S.1 S.2.1 dX6_newest_55 (by decide) ?_
          exact cv_iret S hr hlk hsz h ⟨hf, Or.inr (Or.inl ⟨rfl, hz1.mp c9, fun _ => c3⟩)⟩ dX6_newest_59
      · refine lv_iconst (v := 0) S.1 S.2.1 dX6_newest_45 (by decide) ?_
        refine lv_goto (tgt := 59) S.1 S.2.1 dX6_newest_46 (by decide) ?_
        exact cv_iret S hr hlk hsz h ⟨hf, Or.inl ⟨rfl, hz0.mp c1, fun _ => Int32.not_lt.mp c3⟩⟩ dX6_newest_59
