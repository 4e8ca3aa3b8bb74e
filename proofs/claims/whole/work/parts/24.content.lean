/-! 24: EntryList: readContent -/
theorem pg_ok {bv : Nat → Nat} {en i : Nat} (h : pg bv en) (hi : i < bv 21) : p1 bv en i ∧ ps bv (i + 1) ≤ en := by
  obtain ⟨h1, h2, h3, h4⟩ := h
  exact ⟨h3 i hi, by rw [← h4]; exact ps_mono bv (by omega)⟩

set_option maxHeartbeats 4000000 in
set_option maxRecDepth 100000 in
/-- the content up to byte en is read, if it is right -/
theorem c_readContent (l : Launch) (E : cv_E) (σ : cv_S) (v : Nat) (hv : v < 3) (bv : Nat → Nat) (hbv : by_R (σ.1 9) bv 300) (en : Nat) (hen : en ≤ 300) : cv_Mi l E yX2_readContent wsX2_readContent (cv_R 3) [.ref (E.2.1 (v + 13)), .ref (E.2.1 8), .int 21, .int (nI en)] σ (fun r τ => el_F v σ τ ∧ ((r = 1 ∧ pg bv en ∧ el_R τ v (bv 21) (pN bv) (pO bv) (pV bv)) ∨ (r = 0 ∧ ¬ pg bv en))) := by
  intro sz
  refine cv_in (ws := wsX2_readContent) (cc := cX2_readContent) (maxL := 6) (ret := (some .boolean)) (own := RX2) rfl (by decide) rfl (Nat.le_of_ble_eq_true rfl) ?_
  intro p e s m below meth c S K hr hlk hsz h ls hl
  have hl : lv_has ls 6 [(0, .ref (E.2.1 (v + 13))), (1, .ref (E.2.1 8)), (2, .int 21), (3, .int (nI en))] := hl
  have hinX0 : ∀ w ∈ u_ws RX0 TX0 1, w ∈ wsX2_readContent := by decide +kernel
  have hinX2 : ∀ w ∈ u_ws RX2 TX2 4, w ∈ wsX2_readContent := by decide +kernel
  have hf_15 := S.2.2.2.2 (.fieldLink RX2 15 "CrashVault$EntryList" "olds" "[I") (by decide +kernel)
  have hf_24 := S.2.2.2.2 (.fieldLink RX2 24 "CrashVault$EntryList" "count" "I") (by decide +kernel)
  obtain ⟨hb21, hb256⟩ := hbv 21 (by decide)
  refine lv_iload_n S.1 S.2.1 dX2_readContent_0 rfl (lv_at hl 2 rfl) ?_
  refine lv_iload_n S.1 S.2.1 dX2_readContent_1 rfl (lv_at hl 3 rfl) ?_
  refine lv_icmp_ge (tgt := 16) S.1 S.2.1 dX2_readContent_2 (by decide) (fun c1 => ?_) (fun c1 => ?_)
  · refine lv_iconst (v := 0) S.1 S.2.1 dX2_readContent_16 (by decide) ?_
    exact cv_zret S hr (Or.inl rfl) hlk hsz h ⟨el_F.rf, Or.inr ⟨rfl, fun q => absurd c1 (nI_ge (a := 21) q.1 (by omega))⟩⟩ dX2_readContent_17
  · have h21 : 21 < en := Nat.not_le.mp (fun q => c1 (nI_le (b := 21) q (by decide)))
    refine lv_aload_n S.1 S.2.1 dX2_readContent_5 rfl (lv_at hl 1 rfl) ?_
    refine cv_gfN (ci := 0) (C := RX0) (T := TX0) (N := 1) (v := .ref (E.2.1 9)) S K h 8 rfl hinX0 rfl rfl 0 (by decide) (cv_nest_12 K) rfl rfl dX2_readContent_6 ?_
    refine lv_iload_n S.1 S.2.1 dX2_readContent_9 rfl (lv_at hl 2 rfl) ?_
    refine cv_iald S K h 9 rfl (n := 300) rfl 21 rfl (by decide) dX2_readContent_10 ?_
    refine cv_rei (show (σ.1 9 21) = nI (bv 21) from hb21) ?_
    refine lv_bipush (v := 8) S.1 S.2.1 dX2_readContent_11 (by decide) ?_
    refine lv_icmp_le (tgt := 18) S.1 S.2.1 dX2_readContent_13 (by decide) (fun c2 => ?_) (fun c2 => ?_)
    · have h8 : bv 21 ≤ 8 := (nI_leI (b := 8) (by omega) (by decide)).mp c2
      refine lv_aload_n S.1 S.2.1 dX2_readContent_18 rfl (lv_at hl 0 rfl) ?_
      refine lv_aload_n S.1 S.2.1 dX2_readContent_19 rfl (lv_at hl 1 rfl) ?_
      refine cv_gfN (ci := 0) (C := RX0) (T := TX0) (N := 1) (v := .ref (E.2.1 9)) S K h 8 rfl hinX0 rfl rfl 0 (by decide) (cv_nest_12 K) rfl rfl dX2_readContent_20 ?_
      refine lv_iload_n S.1 S.2.1 dX2_readContent_23 rfl (lv_at hl 2 rfl) ?_
      refine cv_iald S K h 9 rfl (n := 300) rfl 21 rfl (by decide) dX2_readContent_24 ?_
      refine cv_rei (show (σ.1 9 21) = nI (bv 21) from hb21) ?_
      refine cv_pf (ci := 2) (C := RX2) (T := TX2) (N := 4) (x := (nI (bv 21))) S K h (v + 13) (cv_kdV v hv).2.1 hinX2 (cv_fsL hv) rfl 3 cv_pok_X2_3 hf_24 rfl rfl rfl (Nat.le_of_ble_eq_true rfl) (cv_fsL hv) dX2_readContent_25 (fun σ1 H locs eσ1 h => ?_)
      refine lv_iload_n S.1 S.2.1 dX2_readContent_28 rfl (lv_at hl 2 rfl) ?_
      refine lv_iconst (v := 1) S.1 S.2.1 dX2_readContent_29 (by decide) ?_
      refine lv_iadd S.1 S.2.1 dX2_readContent_30 ?_
      refine lv_topi (fun z2 ez2 => ?_)
      refine lv_istore (lv' := [(4, .int z2), (0, .ref (E.2.1 (v + 13))), (1, .ref (E.2.1 8)), (2, .int 21), (3, .int (nI en))]) S.1 S.2.1 dX2_readContent_31 hl (by decide) rfl (fun ls hl => ?_)
      refine lv_iconst (v := 0) S.1 S.2.1 dX2_readContent_33 (by decide) ?_
      refine lv_istore (lv' := [(5, .int 0), (4, .int z2), (0, .ref (E.2.1 (v + 13))), (1, .ref (E.2.1 8)), (2, .int 21), (3, .int (nI en))]) S.1 S.2.1 dX2_readContent_34 hl (by decide) rfl (fun ls hl => ?_)
      have hst : el_F v σ σ1 ∧ σ1.2.2.1 (v + 13) 3 = nI (bv 21) := by
        rw [eσ1]
        refine ⟨⟨fun _ _ => rfl, fun _ _ _ => rfl, fun k i hk => ?_, rfl⟩, by rw [cv_F3, if_pos rfl, if_pos rfl]⟩
        rw [cv_F3]
        by_cases h1 : k = v + 13
        · rw [if_pos h1, if_neg (by omega), h1]
        · rw [if_neg h1]
      rw [ez2, show (21 : Int32) + 1 = nI (ps bv 0) from rfl] at hl
      refine cv_loop (α := Unit) (nL := 6) (bv 21) (fun i a τ => el_F v σ τ ∧ τ.2.2.1 (v + 13) 3 = nI (bv 21) ∧ ∀ j, j < i → (p1 bv en j ∧ ps bv (j + 1) ≤ en) ∧ τ.2.1 (v + 16) j = pN bv j ∧ τ.1 (v + 19) j = nI (pO bv j) ∧ pO bv j ≤ 2 ∧ ∀ k, k ≤ pO bv j → τ.2.1 (8 * v + j + 25) k = pV bv j k) (fun i a => [(5, .int (nI i)), (4, .int (nI (ps bv i))), (0, .ref (E.2.1 (v + 13))), (1, .ref (E.2.1 8)), (2, .int 21), (3, .int (nI en))]) ?_ ?_ 0 () σ1 _ _ _ (by omega) (⟨hst.1, hst.2, fun j hj => absurd hj (Nat.not_lt_zero j)⟩) h hl
      · intro i a τ H locs ls hi hI h hl ih
        have hl : lv_has ls 6 [(5, .int (nI i)), (4, .int (nI (ps bv i))), (0, .ref (E.2.1 (v + 13))), (1, .ref (E.2.1 8)), (2, .int 21), (3, .int (nI en))] := hl
        obtain ⟨g1, g2, g3⟩ := hI
        have hps : ps bv i ≤ 300 := by
          by_cases h0 : i = 0
          · rw [h0]; show 22 ≤ 300; decide
          · have := (g3 (i - 1) (by omega)).1.2
            rw [show i - 1 + 1 = i by omega] at this
            omega
        have tb : by_R (τ.1 9) bv 300 := by rw [g1.1 9 (by omega)]; exact hbv
        have hok : el_ok τ bv v i (ps bv i) en ↔ (p1 bv en i ∧ ps bv (i + 1) ≤ en) := by
          have hn : i ≠ 0 → τ.2.1 (v + 16) (i - 1) = pN bv (i - 1) := fun h0 => (g3 (i - 1) (by omega)).2.1
          constructor
          · rintro ⟨k1, k2, k3, k4, k5⟩
            refine ⟨⟨k1, k4, k2, ?_⟩, k5⟩
            by_cases h0 : i = 0
            · exact Or.inl h0
            · rw [hn h0] at k3; exact Or.inr (k3.resolve_left h0)
          · rintro ⟨⟨k1, k4, k2, k3⟩, k5⟩
            refine ⟨k1, k2, ?_, k4, k5⟩
            by_cases h0 : i = 0
            · exact Or.inl h0
            · rw [hn h0]; exact Or.inr (k3.resolve_left h0)
        refine lv_iload S.1 S.2.1 dX2_readContent_36 (lv_at hl 0 rfl) ?_
        refine lv_aload_n S.1 S.2.1 dX2_readContent_38 rfl (lv_at hl 2 rfl) ?_
        refine cv_gf (ci := 2) (C := RX2) (T := TX2) (N := 4) (v := .int (τ.2.2.1 (v + 13) 3)) S K h (v + 13) (cv_kdV v hv).2.1 hinX2 (cv_fsL hv) rfl 3 (by decide) hf_24 rfl rfl dX2_readContent_39 ?_
        refine lv_icmp_ge (tgt := 84) S.1 S.2.1 dX2_readContent_42 (by decide) (fun c3 => ?_) (fun c3 => ?_)
        · rw [g2] at c3
          exact absurd c3 (nI_ge hi (by omega))
        · refine lv_aload_n S.1 S.2.1 dX2_readContent_45 rfl (lv_at hl 2 rfl) ?_
          refine lv_aload_n S.1 S.2.1 dX2_readContent_46 rfl (lv_at hl 3 rfl) ?_
          refine lv_iload S.1 S.2.1 dX2_readContent_47 (lv_at hl 1 rfl) ?_
          refine lv_iload_n S.1 S.2.1 dX2_readContent_49 rfl (lv_at hl 5 rfl) ?_
          refine lv_iload S.1 S.2.1 dX2_readContent_50 (lv_at hl 0 rfl) ?_
          refine cv_calli (ci := 2) (C := RX2) (T := TX2) (N := 4) S K h hl.1 (cv_kdV v hv).2.1 (cv_fsL hv) rfl (c_readEntry l E τ v hv bv tb (ps bv i) en i hen (by omega) (by omega)) (cwV 4 S.2.2.2.2 gX2_readContent_X2_readEntry rfl rfl rfl (by decide +kernel) ⟨Nat.le_of_ble_eq_true rfl, Nat.le_of_ble_eq_true rfl⟩) rfl rfl (Nat.le_of_ble_eq_true rfl) ⟨Nat.zero_le _, Nat.zero_le _⟩ dX2_readContent_52 (fun rr σ3 H locs hq h => ?_)
          rcases hq with ⟨hr1, k1, k2⟩ | ⟨hr1, k1, k2⟩
          · subst hr1
            refine lv_if_ne (tgt := 60) S.1 S.2.1 dX2_readContent_55 (by decide) (fun c4 => ?_) (fun c4 => ?_)
            · obtain ⟨m1, m2, m3, m4, m5, m6⟩ := k2
              refine lv_iload S.1 S.2.1 dX2_readContent_60 (lv_at hl 1 rfl) ?_
              refine lv_bipush (v := 17) S.1 S.2.1 dX2_readContent_62 (by decide) ?_
              refine lv_bipush (v := 8) S.1 S.2.1 dX2_readContent_64 (by decide) ?_
              refine lv_aload_n S.1 S.2.1 dX2_readContent_66 rfl (lv_at hl 2 rfl) ?_
              refine cv_gf (ci := 2) (C := RX2) (T := TX2) (N := 4) (v := .ref (E.2.1 (v + 19))) S K h (v + 13) (cv_kdV v hv).2.1 hinX2 (cv_fsL hv) rfl 1 (by decide) hf_15 rfl rfl dX2_readContent_67 ?_
              refine lv_iload S.1 S.2.1 dX2_readContent_70 (lv_at hl 0 rfl) ?_
              refine cv_iald S K h (v + 19) (cv_kdV v hv).2.2.2.1 (cv_kdV v hv).2.2.2.2.2.2 i rfl (by omega) dX2_readContent_72 ?_
              refine lv_imul S.1 S.2.1 dX2_readContent_73 ?_
              refine lv_iadd S.1 S.2.1 dX2_readContent_74 ?_
              refine lv_iadd S.1 S.2.1 dX2_readContent_75 ?_
              refine cv_rei (show (((nI (ps bv i))) + ((17 + ((8 * ((σ3.1 (v + 19) i))))))) = nI (ps bv (i + 1)) from by rw [m2, show (8 : Int32) * nI (bv (ps bv i + 8)) = nI (8 * bv (ps bv i + 8)) from pk_mul 8 _, show (17 : Int32) + nI (8 * bv (ps bv i + 8)) = nI (17 + 8 * bv (ps bv i + 8)) from nI_add 17 _, nI_add, ← Nat.add_assoc]; rfl) ?_
              refine lv_istore (lv' := [(4, .int (nI (ps bv (i + 1)))), (5, .int (nI i)), (0, .ref (E.2.1 (v + 13))), (1, .ref (E.2.1 8)), (2, .int 21), (3, .int (nI en))]) S.1 S.2.1 dX2_readContent_76 hl (by decide) rfl (fun ls hl => ?_)
              obtain ⟨z5, ez5⟩ : ∃ y : Int32, y = ((nI i)) + 1 := ⟨_, rfl⟩
              refine lv_iinc (v := z5) (lv' := [(5, .int z5), (4, .int (nI (ps bv (i + 1)))), (0, .ref (E.2.1 (v + 13))), (1, .ref (E.2.1 8)), (2, .int 21), (3, .int (nI en))]) S.1 S.2.1 dX2_readContent_78 hl (k := 1) rfl (by rw [ez5]; rfl) (by decide) rfl (fun ls hl => ?_)
              refine lv_goto (tgt := 36) S.1 S.2.1 dX2_readContent_81 (by decide) ?_
              rw [ez5, nI_1] at hl
              refine ih () σ3 H locs ls ⟨g1.trans m5, by rw [m6]; exact g2, fun j hj => ?_⟩ h hl
              by_cases hji : j = i
              · subst hji; exact ⟨hok.mp k1, m1, m2, k1.2.2.2.1, m3⟩
              · obtain ⟨u1, u2, u3, u4, u5⟩ := g3 j (by omega)
                exact ⟨u1, (m4 j (by omega) hji).R ⟨u2, u3, u4, u5⟩⟩
            · exact absurd c4 (by decide)
          · subst hr1
            refine lv_if_ne (tgt := 60) S.1 S.2.1 dX2_readContent_55 (by decide) (fun c4 => ?_) (fun c4 => ?_)
            · exact absurd rfl c4
            · refine lv_iconst (v := 0) S.1 S.2.1 dX2_readContent_58 (by decide) ?_
              exact cv_zret S hr (Or.inl rfl) hlk hsz h ⟨by rw [k2]; exact g1, Or.inr ⟨rfl, fun q => k1 (hok.mpr (pg_ok q hi))⟩⟩ dX2_readContent_59
      · intro a τ H locs ls hI h hl
        have hl : lv_has ls 6 [(5, .int (nI (bv 21))), (4, .int (nI (ps bv (bv 21)))), (0, .ref (E.2.1 (v + 13))), (1, .ref (E.2.1 8)), (2, .int 21), (3, .int (nI en))] := hl
        obtain ⟨g1, g2, g3⟩ := hI
        have hps : ps bv (bv 21) ≤ 300 := by
          by_cases h0 : bv 21 = 0
          · rw [h0]; show 22 ≤ 300; decide
          · have := (g3 (bv 21 - 1) (by omega)).1.2
            rw [show bv 21 - 1 + 1 = bv 21 by omega] at this
            omega
        refine lv_iload S.1 S.2.1 dX2_readContent_36 (lv_at hl 0 rfl) ?_
        refine lv_aload_n S.1 S.2.1 dX2_readContent_38 rfl (lv_at hl 2 rfl) ?_
        refine cv_gf (ci := 2) (C := RX2) (T := TX2) (N := 4) (v := .int (τ.2.2.1 (v + 13) 3)) S K h (v + 13) (cv_kdV v hv).2.1 hinX2 (cv_fsL hv) rfl 3 (by decide) hf_24 rfl rfl dX2_readContent_39 ?_
        refine lv_icmp_ge (tgt := 84) S.1 S.2.1 dX2_readContent_42 (by decide) (fun c3 => ?_) (fun c3 => ?_)
        · refine lv_iload S.1 S.2.1 dX2_readContent_84 (lv_at hl 1 rfl) ?_
          refine lv_iload_n S.1 S.2.1 dX2_readContent_86 rfl (lv_at hl 5 rfl) ?_
          refine lv_icmp_ne (tgt := 94) S.1 S.2.1 dX2_readContent_87 (by decide) (fun c4 => ?_) (fun c4 => ?_)
          · refine lv_iconst (v := 0) S.1 S.2.1 dX2_readContent_94 (by decide) ?_
            exact cv_zret S hr (Or.inl rfl) hlk hsz h ⟨g1, Or.inr ⟨rfl, fun q => c4 (by rw [q.2.2.2])⟩⟩ dX2_readContent_95
          · refine lv_iconst (v := 1) S.1 S.2.1 dX2_readContent_90 (by decide) ?_
            refine lv_goto (tgt := 95) S.1 S.2.1 dX2_readContent_91 (by decide) ?_
            exact cv_zret S hr (Or.inr rfl) hlk hsz h ⟨g1, Or.inl ⟨rfl, ⟨h21, h8, fun i hi => (g3 i hi).1.1, (nI_eq (by omega) (by omega)).mp c4⟩, g2, h8, fun i hi => (g3 i hi).2⟩⟩ dX2_readContent_95
        · rw [g2] at c3
          exact absurd (Int32.le_refl _) c3
    · refine lv_iconst (v := 0) S.1 S.2.1 dX2_readContent_16 (by decide) ?_
      exact cv_zret S hr (Or.inl rfl) hlk hsz h ⟨el_F.rf, Or.inr ⟨rfl, fun q => c2 (nI_le (b := 8) q.2.1 (by decide))⟩⟩ dX2_readContent_17
