/-! 29: the reference: next, setMain, makeMain, seal -/
/-- the reference's word, byte by byte from the highest on -/
def wz (b : Nat → Nat) (a : Nat) : Nat → Nat
  | 0 => 0
  | t + 1 => wz b a t * 256 + b (a + (3 - t))
theorem wz_lt {b : Nat → Nat} {a : Nat} (h : ∀ j, b j < 256) : ∀ t, wz b a t < 256 ^ t
  | 0 => by show 0 < 1; decide
  | t + 1 => by
    show wz b a t * 256 + b (a + (3 - t)) < 256 ^ t * 256
    have h1 := wz_lt h t (a := a)
    have h2 := h (a + (3 - t))
    omega
theorem wz_nv (b : Nat → Nat) (a : Nat) : wz b a 4 = nv b a 4 := by
  show (((0 * 256 + b (a + 3)) * 256 + b (a + 2)) * 256 + b (a + 1)) * 256 + b (a + 0) = 0 + b (a + 0) * 2 ^ (8 * 0) + b (a + 1) * 2 ^ (8 * 1) + b (a + 2) * 2 ^ (8 * 2) + b (a + 3) * 2 ^ (8 * 3)
  omega

set_option maxHeartbeats 4000000 in
set_option maxRecDepth 100000 in
/-- the key becomes the first four ints of the block -/
theorem m_next (l : Launch) (E : cv_E) (σ : cv_S) (x y z : Int32) : cv_Mv l E yX6_next wsX6_next (cv_R 4) [.ref (E.2.1 49), .int x, .int y, .int z] σ (fun τ => cv_fr [54, 55, 56] σ τ ∧ pu_eq 4 (τ.1 56) (pu_blk (σ.1 56) x y z)) := by
  intro sz
  refine cv_in (ws := wsX6_next) (cc := cX6_next) (maxL := 5) (ret := none) (own := RX6) rfl (by decide) rfl (Nat.le_of_ble_eq_true rfl) ?_
  intro p e s m below meth c S K hr hlk hsz h ls hl
  have hl : lv_has ls 5 [(0, .ref (E.2.1 49)), (1, .int x), (2, .int y), (3, .int z)] := hl
  have hinX6 : ∀ w ∈ u_ws RX6 TX6 18, w ∈ wsX6_next := by decide +kernel
  have hf_23 := S.2.2.2.2 (.fieldLink RX6 23 "CrashVaultModel" "state" "[I") (by decide +kernel)
  have hf_29 := S.2.2.2.2 (.fieldLink RX6 29 "CrashVaultModel" "key" "[I") (by decide +kernel)
  refine lv_aload_n S.1 S.2.1 dX6_next_0 rfl (lv_at hl 0 rfl) ?_
  refine lv_iload_n S.1 S.2.1 dX6_next_1 rfl (lv_at hl 1 rfl) ?_
  refine lv_iload_n S.1 S.2.1 dX6_next_2 rfl (lv_at hl 2 rfl) ?_
  refine lv_iload_n S.1 S.2.1 dX6_next_3 rfl (lv_at hl 3 rfl) ?_
  refine cv_callv (ci := 6) (C := RX6) (T := TX6) (N := 18) S K h hl.1 rfl rfl rfl (m_block l E σ x y z) (cwV 3 S.2.2.2.2 gX6_next_X6_block rfl rfl rfl (by decide +kernel) ⟨Nat.le_of_ble_eq_true rfl, Nat.le_of_ble_eq_true rfl⟩) rfl rfl (Nat.le_of_ble_eq_true rfl) ⟨Nat.zero_le _, Nat.zero_le _⟩ dX6_next_4 (fun σ1 H locs hq h => ?_)
  refine lv_iconst (v := 0) S.1 S.2.1 dX6_next_7 (by decide) ?_
  refine lv_istore (lv' := [(4, .int 0), (0, .ref (E.2.1 49)), (1, .int x), (2, .int y), (3, .int z)]) S.1 S.2.1 dX6_next_8 hl (by decide) rfl (fun ls hl => ?_)
  refine cv_loop (α := Unit) (nL := 5) 4 (fun i a τ => cv_fr [54, 55, 56] σ τ ∧ pu_eq 16 (τ.1 54) (pu_blk (σ.1 56) x y z) ∧ ∀ j, j < i → τ.1 56 j = (pu_blk (σ.1 56) x y z) j) (fun i a => [(4, .int (nI i)), (0, .ref (E.2.1 49)), (1, .int x), (2, .int y), (3, .int z)]) ?_ ?_ 0 () σ1 _ _ _ (by omega) (⟨hq.1.mono (by decide), hq.2, fun j hj => absurd hj (Nat.not_lt_zero j)⟩) h hl
  · intro i a τ H locs ls hi hI h hl ih
    have hl : lv_has ls 5 [(4, .int (nI i)), (0, .ref (E.2.1 49)), (1, .int x), (2, .int y), (3, .int z)] := hl
    obtain ⟨g1, g2, g3⟩ := hI
    refine lv_iload S.1 S.2.1 dX6_next_10 (lv_at hl 0 rfl) ?_
    refine lv_iconst (v := 4) S.1 S.2.1 dX6_next_12 (by decide) ?_
    refine lv_icmp_ge (tgt := 36) S.1 S.2.1 dX6_next_13 (by decide) (fun c1 => ?_) (fun c1 => ?_)
    · exact absurd c1 (nI_ge (b := 4) hi (by decide))
    · refine lv_aload_n S.1 S.2.1 dX6_next_16 rfl (lv_at hl 1 rfl) ?_
      refine cv_gf (ci := 6) (C := RX6) (T := TX6) (N := 18) (v := .ref (E.2.1 56)) S K h 49 rfl hinX6 rfl rfl 14 (by decide) hf_29 rfl rfl dX6_next_17 ?_
      refine lv_iload S.1 S.2.1 dX6_next_20 (lv_at hl 0 rfl) ?_
      refine lv_aload_n S.1 S.2.1 dX6_next_22 rfl (lv_at hl 1 rfl) ?_
      refine cv_gf (ci := 6) (C := RX6) (T := TX6) (N := 18) (v := .ref (E.2.1 54)) S K h 49 rfl hinX6 rfl rfl 12 (by decide) hf_23 rfl rfl dX6_next_23 ?_
      refine lv_iload S.1 S.2.1 dX6_next_26 (lv_at hl 0 rfl) ?_
      refine cv_iald S K h 54 rfl (n := 16) rfl i rfl (by omega) dX6_next_28 ?_
      refine lv_topi (fun k1 ek1 => ?_)
      refine cv_iast (x := k1) S K h 56 rfl (n := 4) rfl i rfl hi dX6_next_29 (fun σ2 H locs eσ2 h => ?_)
      obtain ⟨z5, ez5⟩ : ∃ y : Int32, y = ((nI i)) + 1 := ⟨_, rfl⟩
      refine lv_iinc (v := z5) (lv' := [(4, .int z5), (0, .ref (E.2.1 49)), (1, .int x), (2, .int y), (3, .int z)]) S.1 S.2.1 dX6_next_30 hl (k := 0) rfl (by rw [ez5]; rfl) (by decide) rfl (fun ls hl => ?_)
      refine lv_goto (tgt := 10) S.1 S.2.1 dX6_next_33 (by decide) ?_
      rw [ez5, nI_1] at hl
      refine ih () σ2 H locs ls ?_ h hl
      rw [eσ2]
      refine ⟨g1.trans (cv_fr.up (by decide)), g2, fun j hj => ?_⟩
      rw [cv_I1, if_pos rfl]
      by_cases hji : j = i
      · rw [hji, pk_us, ek1]; exact g2 i (by omega)
      · rw [pk_un hji]; exact g3 j (by omega)
  · intro a τ H locs ls hI h hl
    have hl : lv_has ls 5 [(4, .int (nI 4)), (0, .ref (E.2.1 49)), (1, .int x), (2, .int y), (3, .int z)] := hl
    refine lv_iload S.1 S.2.1 dX6_next_10 (lv_at hl 0 rfl) ?_
    refine lv_iconst (v := 4) S.1 S.2.1 dX6_next_12 (by decide) ?_
    refine lv_icmp_ge (tgt := 36) S.1 S.2.1 dX6_next_13 (by decide) (fun c1 => ?_) (fun c1 => ?_)
    · exact cv_vret S hr hlk hsz h ⟨hI.1, hI.2.2⟩ dX6_next_36
    · exact absurd (Int32.le_refl _) c1

set_option maxHeartbeats 4000000 in
set_option maxRecDepth 100000 in
theorem m_setMain (l : Launch) (E : cv_E) (σ : cv_S) : cv_Mv l E yX6_setMain wsX6_setMain (cv_R 1) [.ref (E.2.1 49)] σ (fun τ => cv_fr [56] σ τ ∧ pu_eq 4 (τ.1 56) (σ.1 57)) := by
  intro sz
  refine cv_in (ws := wsX6_setMain) (cc := cX6_setMain) (maxL := 2) (ret := none) (own := RX6) rfl (by decide) rfl (Nat.le_of_ble_eq_true rfl) ?_
  intro p e s m below meth c S K hr hlk hsz h ls hl
  have hl : lv_has ls 2 [(0, .ref (E.2.1 49))] := hl
  have hinX6 : ∀ w ∈ u_ws RX6 TX6 18, w ∈ wsX6_setMain := by decide +kernel
  have hf_29 := S.2.2.2.2 (.fieldLink RX6 29 "CrashVaultModel" "key" "[I") (by decide +kernel)
  have hf_32 := S.2.2.2.2 (.fieldLink RX6 32 "CrashVaultModel" "main" "[I") (by decide +kernel)
  refine lv_iconst (v := 0) S.1 S.2.1 dX6_setMain_0 (by decide) ?_
  refine lv_istore_n (lv' := [(1, .int 0), (0, .ref (E.2.1 49))]) S.1 S.2.1 dX6_setMain_1 rfl hl (by decide) rfl (fun ls hl => ?_)
  refine cv_loop (α := Unit) (nL := 2) 4 (fun i a τ => cv_fr [56] σ τ ∧ ∀ j, j < i → τ.1 56 j = σ.1 57 j) (fun i a => [(1, .int (nI i)), (0, .ref (E.2.1 49))]) ?_ ?_ 0 () σ _ _ _ (by omega) (⟨cv_fr.rf, fun j hj => absurd hj (Nat.not_lt_zero j)⟩) h hl
  · intro i a τ H locs ls hi hI h hl ih
    have hl : lv_has ls 2 [(1, .int (nI i)), (0, .ref (E.2.1 49))] := hl
    obtain ⟨g1, g3⟩ := hI
    refine lv_iload_n S.1 S.2.1 dX6_setMain_2 rfl (lv_at hl 0 rfl) ?_
    refine lv_iconst (v := 4) S.1 S.2.1 dX6_setMain_3 (by decide) ?_
    refine lv_icmp_ge (tgt := 25) S.1 S.2.1 dX6_setMain_4 (by decide) (fun c1 => ?_) (fun c1 => ?_)
    · exact absurd c1 (nI_ge (b := 4) hi (by decide))
    · refine lv_aload_n S.1 S.2.1 dX6_setMain_7 rfl (lv_at hl 1 rfl) ?_
      refine cv_gf (ci := 6) (C := RX6) (T := TX6) (N := 18) (v := .ref (E.2.1 56)) S K h 49 rfl hinX6 rfl rfl 14 (by decide) hf_29 rfl rfl dX6_setMain_8 ?_
      refine lv_iload_n S.1 S.2.1 dX6_setMain_11 rfl (lv_at hl 0 rfl) ?_
      refine lv_aload_n S.1 S.2.1 dX6_setMain_12 rfl (lv_at hl 1 rfl) ?_
      refine cv_gf (ci := 6) (C := RX6) (T := TX6) (N := 18) (v := .ref (E.2.1 57)) S K h 49 rfl hinX6 rfl rfl 15 (by decide) hf_32 rfl rfl dX6_setMain_13 ?_
      refine lv_iload_n S.1 S.2.1 dX6_setMain_16 rfl (lv_at hl 0 rfl) ?_
      refine cv_iald S K h 57 rfl (n := 4) rfl i rfl hi dX6_setMain_17 ?_
      refine lv_topi (fun k1 ek1 => ?_)
      refine cv_iast (x := k1) S K h 56 rfl (n := 4) rfl i rfl hi dX6_setMain_18 (fun σ3 H locs eσ3 h => ?_)
      obtain ⟨z5, ez5⟩ : ∃ y : Int32, y = ((nI i)) + 1 := ⟨_, rfl⟩
      refine lv_iinc (v := z5) (lv' := [(1, .int z5), (0, .ref (E.2.1 49))]) S.1 S.2.1 dX6_setMain_19 hl (k := 0) rfl (by rw [ez5]; rfl) (by decide) rfl (fun ls hl => ?_)
      refine lv_goto (tgt := 2) S.1 S.2.1 dX6_setMain_22 (by decide) ?_
      rw [ez5, nI_1] at hl
      refine ih () σ3 H locs ls ?_ h hl
      rw [eσ3]
      refine ⟨g1.trans (cv_fr.up (by decide)), fun j hj => ?_⟩
      rw [cv_I1, if_pos rfl]
      by_cases hji : j = i
      · rw [hji, pk_us, ek1, g1.1 57 (by decide)]
      · rw [pk_un hji]; exact g3 j (by omega)
  · intro a τ H locs ls hI h hl
    have hl : lv_has ls 2 [(1, .int (nI 4)), (0, .ref (E.2.1 49))] := hl
    refine lv_iload_n S.1 S.2.1 dX6_setMain_2 rfl (lv_at hl 0 rfl) ?_
    refine lv_iconst (v := 4) S.1 S.2.1 dX6_setMain_3 (by decide) ?_
    refine lv_icmp_ge (tgt := 25) S.1 S.2.1 dX6_setMain_4 (by decide) (fun c1 => ?_) (fun c1 => ?_)
    · exact cv_vret S hr hlk hsz h hI dX6_setMain_25
    · exact absurd (Int32.le_refl _) c1

set_option maxHeartbeats 4000000 in
set_option maxRecDepth 100000 in
/-- the key of a password -/
theorem m_makeMain (l : Launch) (E : cv_E) (σ : cv_S) (pw : Int64) (sa : Int32) (rd : Nat) (hrd : rd ≤ 40) : cv_Mv l E yX6_makeMain wsX6_makeMain (cv_R 5) [.ref (E.2.1 49), .long pw, .int sa, .int (nI rd)] σ (fun τ => cv_fr [54, 55, 56, 57] σ τ ∧ pu_eq 4 (τ.1 57) (pu_key pw sa rd)) := by
  intro sz
  refine cv_in (ws := wsX6_makeMain) (cc := cX6_makeMain) (maxL := 6) (ret := none) (own := RX6) rfl (by decide) rfl (Nat.le_of_ble_eq_true rfl) ?_
  intro p e s m below meth c S K hr hlk hsz h ls hl
  have hl : lv_has ls 6 [(0, .ref (E.2.1 49)), (1, .long pw), (3, .int sa), (4, .int (nI rd))] := hl
  have hinX6 : ∀ w ∈ u_ws RX6 TX6 18, w ∈ wsX6_makeMain := by decide +kernel
  have hf_29 := S.2.2.2.2 (.fieldLink RX6 29 "CrashVaultModel" "key" "[I") (by decide +kernel)
  have hf_32 := S.2.2.2.2 (.fieldLink RX6 32 "CrashVaultModel" "main" "[I") (by decide +kernel)
  refine lv_aload_n S.1 S.2.1 dX6_makeMain_0 rfl (lv_at hl 0 rfl) ?_
  refine cv_gf (ci := 6) (C := RX6) (T := TX6) (N := 18) (v := .ref (E.2.1 56)) S K h 49 rfl hinX6 rfl rfl 14 (by decide) hf_29 rfl rfl dX6_makeMain_1 ?_
  refine lv_iconst (v := 0) S.1 S.2.1 dX6_makeMain_4 (by decide) ?_
  refine lv_lload_n S.1 S.2.1 dX6_makeMain_5 rfl (lv_at hl 1 rfl) ?_
  refine lv_l2i (v := (pw : Int64).toInt32) S.1 S.2.1 dX6_makeMain_6 rfl ?_
  refine lv_topi (fun k0 ek0 => ?_)
  refine cv_iast (x := k0) S K h 56 rfl (n := 4) rfl 0 rfl (by decide) dX6_makeMain_7 (fun σ4 H locs eσ4 h => ?_)
  refine lv_aload_n S.1 S.2.1 dX6_makeMain_8 rfl (lv_at hl 0 rfl) ?_
  refine cv_gf (ci := 6) (C := RX6) (T := TX6) (N := 18) (v := .ref (E.2.1 56)) S K h 49 rfl hinX6 rfl rfl 14 (by decide) hf_29 rfl rfl dX6_makeMain_9 ?_
  refine lv_iconst (v := 1) S.1 S.2.1 dX6_makeMain_12 (by decide) ?_
  refine lv_lload_n S.1 S.2.1 dX6_makeMain_13 rfl (lv_at hl 1 rfl) ?_
  refine lv_bipush (v := 32) S.1 S.2.1 dX6_makeMain_14 (by decide) ?_
  refine lv_lshr (v := pw >>> ((32 : Int32).toInt64 &&& 63)) S.1 S.2.1 dX6_makeMain_16 rfl ?_
  refine lv_l2i (v := ((pw >>> ((32 : Int32).toInt64 &&& 63)) : Int64).toInt32) S.1 S.2.1 dX6_makeMain_17 rfl ?_
  refine lv_topi (fun k1 ek1 => ?_)
  refine cv_iast (x := k1) S K h 56 rfl (n := 4) rfl 1 rfl (by decide) dX6_makeMain_18 (fun σ5 H locs eσ5 h => ?_)
  refine lv_aload_n S.1 S.2.1 dX6_makeMain_19 rfl (lv_at hl 0 rfl) ?_
  refine cv_gf (ci := 6) (C := RX6) (T := TX6) (N := 18) (v := .ref (E.2.1 56)) S K h 49 rfl hinX6 rfl rfl 14 (by decide) hf_29 rfl rfl dX6_makeMain_20 ?_
  refine lv_iconst (v := 2) S.1 S.2.1 dX6_makeMain_23 (by decide) ?_
  refine lv_iload_n S.1 S.2.1 dX6_makeMain_24 rfl (lv_at hl 2 rfl) ?_
  refine cv_iast (x := sa) S K h 56 rfl (n := 4) rfl 2 rfl (by decide) dX6_makeMain_25 (fun σ6 H locs eσ6 h => ?_)
  refine lv_aload_n S.1 S.2.1 dX6_makeMain_26 rfl (lv_at hl 0 rfl) ?_
  refine cv_gf (ci := 6) (C := RX6) (T := TX6) (N := 18) (v := .ref (E.2.1 56)) S K h 49 rfl hinX6 rfl rfl 14 (by decide) hf_29 rfl rfl dX6_makeMain_27 ?_
  refine lv_iconst (v := 3) S.1 S.2.1 dX6_makeMain_30 (by decide) ?_
  refine lv_iconst (v := 0) S.1 S.2.1 dX6_makeMain_31 (by decide) ?_
  refine cv_iast (x := 0) S K h 56 rfl (n := 4) rfl 3 rfl (by decide) dX6_makeMain_32 (fun σ7 H locs eσ7 h => ?_)
  refine lv_aload_n S.1 S.2.1 dX6_makeMain_33 rfl (lv_at hl 0 rfl) ?_
  refine lv_iconst (v := 0) S.1 S.2.1 dX6_makeMain_34 (by decide) ?_
  refine lv_iconst (v := (-1)) S.1 S.2.1 dX6_makeMain_35 (by decide) ?_
  refine lv_iconst (v := 1) S.1 S.2.1 dX6_makeMain_36 (by decide) ?_
  refine cv_callv (ci := 6) (C := RX6) (T := TX6) (N := 18) S K h hl.1 rfl rfl rfl (m_next l E σ7 0 (-1) 1) (cwV 3 S.2.2.2.2 gX6_makeMain_X6_next rfl rfl rfl (by decide +kernel) ⟨Nat.le_of_ble_eq_true rfl, Nat.le_of_ble_eq_true rfl⟩) rfl rfl (Nat.le_of_ble_eq_true rfl) ⟨Nat.zero_le _, Nat.zero_le _⟩ dX6_makeMain_37 (fun σ8 H locs hq h => ?_)
  have hst : cv_fr [54, 55, 56, 57] σ σ8 ∧ pu_eq 4 (σ8.1 56) (pu_key pw sa 0) := by
    have hk : cv_fr [54, 55, 56, 57] σ σ7 ∧ pu_eq 4 (σ7.1 56) (pu_k0 pw sa) := by
      rw [hi_s] at ek1
      subst eσ7 eσ6 eσ5 eσ4
      refine ⟨⟨fun k hk => ?_, rfl⟩, fun i hi => ?_⟩
      · have hk4 : k ≠ 56 := fun q => hk (by rw [q]; decide)
        simp only [cv_I1, if_neg hk4]
      · rcases (show i = 0 ∨ i = 1 ∨ i = 2 ∨ i = 3 by omega) with rfl | rfl | rfl | rfl <;> simp [cv_I1, upd, pu_k0, ek0, ek1]
    refine ⟨hk.1.trans (hq.1.mono (by decide)), ?_⟩
    have := hq.2
    rw [pu_blk_eq hk.2] at this
    exact this
  refine lv_iconst (v := 0) S.1 S.2.1 dX6_makeMain_40 (by decide) ?_
  refine lv_istore (lv' := [(5, .int 0), (0, .ref (E.2.1 49)), (1, .long pw), (3, .int sa), (4, .int (nI rd))]) S.1 S.2.1 dX6_makeMain_41 hl (by decide) rfl (fun ls hl => ?_)
  refine cv_loop (α := Unit) (nL := 6) rd (fun i a τ => cv_fr [54, 55, 56, 57] σ τ ∧ pu_eq 4 (τ.1 56) (pu_key pw sa i)) (fun i a => [(5, .int (nI i)), (0, .ref (E.2.1 49)), (1, .long pw), (3, .int sa), (4, .int (nI rd))]) ?_ ?_ 0 () σ8 _ _ _ (by omega) (hst) h hl
  · intro i a τ H locs ls hi hI h hl ih
    have hl : lv_has ls 6 [(5, .int (nI i)), (0, .ref (E.2.1 49)), (1, .long pw), (3, .int sa), (4, .int (nI rd))] := hl
    refine lv_iload S.1 S.2.1 dX6_makeMain_43 (lv_at hl 0 rfl) ?_
    refine lv_iload S.1 S.2.1 dX6_makeMain_45 (lv_at hl 4 rfl) ?_
    refine lv_icmp_ge (tgt := 64) S.1 S.2.1 dX6_makeMain_47 (by decide) (fun c1 => ?_) (fun c1 => ?_)
    · exact absurd c1 (nI_ge hi (by omega))
    · refine lv_aload_n S.1 S.2.1 dX6_makeMain_50 rfl (lv_at hl 1 rfl) ?_
      refine lv_iload S.1 S.2.1 dX6_makeMain_51 (lv_at hl 0 rfl) ?_
      refine lv_iconst (v := 0) S.1 S.2.1 dX6_makeMain_53 (by decide) ?_
      refine lv_iconst (v := 2) S.1 S.2.1 dX6_makeMain_54 (by decide) ?_
      refine cv_callv (ci := 6) (C := RX6) (T := TX6) (N := 18) S K h hl.1 rfl rfl rfl (m_next l E τ (nI i) 0 2) (cwV 3 S.2.2.2.2 gX6_makeMain_X6_next rfl rfl rfl (by decide +kernel) ⟨Nat.le_of_ble_eq_true rfl, Nat.le_of_ble_eq_true rfl⟩) rfl rfl (Nat.le_of_ble_eq_true rfl) ⟨Nat.zero_le _, Nat.zero_le _⟩ dX6_makeMain_55 (fun σ9 H locs hq2 h => ?_)
      obtain ⟨z5, ez5⟩ : ∃ y : Int32, y = ((nI i)) + 1 := ⟨_, rfl⟩
      refine lv_iinc (v := z5) (lv' := [(5, .int z5), (0, .ref (E.2.1 49)), (1, .long pw), (3, .int sa), (4, .int (nI rd))]) S.1 S.2.1 dX6_makeMain_58 hl (k := 0) rfl (by rw [ez5]; rfl) (by decide) rfl (fun ls hl => ?_)
      refine lv_goto (tgt := 43) S.1 S.2.1 dX6_makeMain_61 (by decide) ?_
      rw [ez5, nI_1] at hl
      refine ih () σ9 H locs ls ⟨hI.1.trans (hq2.1.mono (by decide)), ?_⟩ h hl
      have := hq2.2
      rw [pu_blk_eq hI.2] at this
      exact this
  · intro a τ H locs ls hI h hl
    have hl : lv_has ls 6 [(5, .int (nI rd)), (0, .ref (E.2.1 49)), (1, .long pw), (3, .int sa), (4, .int (nI rd))] := hl
    refine lv_iload S.1 S.2.1 dX6_makeMain_43 (lv_at hl 0 rfl) ?_
    refine lv_iload S.1 S.2.1 dX6_makeMain_45 (lv_at hl 4 rfl) ?_
    refine lv_icmp_ge (tgt := 64) S.1 S.2.1 dX6_makeMain_47 (by decide) (fun c1 => ?_) (fun c1 => ?_)
    · refine lv_iconst (v := 0) S.1 S.2.1 dX6_makeMain_64 (by decide) ?_
      refine lv_istore (lv' := [(5, .int 0), (0, .ref (E.2.1 49)), (1, .long pw), (3, .int sa), (4, .int (nI rd))]) S.1 S.2.1 dX6_makeMain_65 hl (by decide) rfl (fun ls hl => ?_)
      refine cv_loop (α := Unit) (nL := 6) 4 (fun i a τ => cv_fr [54, 55, 56, 57] σ τ ∧ pu_eq 4 (τ.1 56) (pu_key pw sa rd) ∧ ∀ j, j < i → τ.1 57 j = pu_key pw sa rd j) (fun i a => [(5, .int (nI i)), (0, .ref (E.2.1 49)), (1, .long pw), (3, .int sa), (4, .int (nI rd))]) ?_ ?_ 0 () τ _ _ _ (by omega) (⟨hI.1, hI.2, fun j hj => absurd hj (Nat.not_lt_zero j)⟩) h hl
      · intro i a ρ H locs ls hi hI h hl ih
        have hl : lv_has ls 6 [(5, .int (nI i)), (0, .ref (E.2.1 49)), (1, .long pw), (3, .int sa), (4, .int (nI rd))] := hl
        obtain ⟨g1, g2, g3⟩ := hI
        refine lv_iload S.1 S.2.1 dX6_makeMain_67 (lv_at hl 0 rfl) ?_
        refine lv_iconst (v := 4) S.1 S.2.1 dX6_makeMain_69 (by decide) ?_
        refine lv_icmp_ge (tgt := 93) S.1 S.2.1 dX6_makeMain_70 (by decide) (fun c2 => ?_) (fun c2 => ?_)
        · exact absurd c2 (nI_ge (b := 4) hi (by decide))
        · refine lv_aload_n S.1 S.2.1 dX6_makeMain_73 rfl (lv_at hl 1 rfl) ?_
          refine cv_gf (ci := 6) (C := RX6) (T := TX6) (N := 18) (v := .ref (E.2.1 57)) S K h 49 rfl hinX6 rfl rfl 15 (by decide) hf_32 rfl rfl dX6_makeMain_74 ?_
          refine lv_iload S.1 S.2.1 dX6_makeMain_77 (lv_at hl 0 rfl) ?_
          refine lv_aload_n S.1 S.2.1 dX6_makeMain_79 rfl (lv_at hl 1 rfl) ?_
          refine cv_gf (ci := 6) (C := RX6) (T := TX6) (N := 18) (v := .ref (E.2.1 56)) S K h 49 rfl hinX6 rfl rfl 14 (by decide) hf_29 rfl rfl dX6_makeMain_80 ?_
          refine lv_iload S.1 S.2.1 dX6_makeMain_83 (lv_at hl 0 rfl) ?_
          refine cv_iald S K h 56 rfl (n := 4) rfl i rfl hi dX6_makeMain_85 ?_
          refine lv_topi (fun k9 ek9 => ?_)
          refine cv_iast (x := k9) S K h 57 rfl (n := 4) rfl i rfl hi dX6_makeMain_86 (fun σ10 H locs eσ10 h => ?_)
          obtain ⟨z5, ez5⟩ : ∃ y : Int32, y = ((nI i)) + 1 := ⟨_, rfl⟩
          refine lv_iinc (v := z5) (lv' := [(5, .int z5), (0, .ref (E.2.1 49)), (1, .long pw), (3, .int sa), (4, .int (nI rd))]) S.1 S.2.1 dX6_makeMain_87 hl (k := 0) rfl (by rw [ez5]; rfl) (by decide) rfl (fun ls hl => ?_)
          refine lv_goto (tgt := 67) S.1 S.2.1 dX6_makeMain_90 (by decide) ?_
          rw [ez5, nI_1] at hl
          refine ih () σ10 H locs ls ?_ h hl
          rw [eσ10]
          refine ⟨g1.trans (cv_fr.up (by decide)), g2, fun j hj => ?_⟩
          rw [cv_I1, if_pos rfl]
          by_cases hji : j = i
          · rw [hji, pk_us, ek9]; exact g2 i hi
          · rw [pk_un hji]; exact g3 j (by omega)
      · intro a ρ H locs ls hI h hl
        have hl : lv_has ls 6 [(5, .int (nI 4)), (0, .ref (E.2.1 49)), (1, .long pw), (3, .int sa), (4, .int (nI rd))] := hl
        refine lv_iload S.1 S.2.1 dX6_makeMain_67 (lv_at hl 0 rfl) ?_
        refine lv_iconst (v := 4) S.1 S.2.1 dX6_makeMain_69 (by decide) ?_
        refine lv_icmp_ge (tgt := 93) S.1 S.2.1 dX6_makeMain_70 (by decide) (fun c2 => ?_) (fun c2 => ?_)
        · exact cv_vret S hr hlk hsz h ⟨hI.1, hI.2.2⟩ dX6_makeMain_93
        · exact absurd (Int32.le_refl _) c2
    · exact absurd (Int32.le_refl _) c1

set_option maxHeartbeats 4000000 in
set_option maxRecDepth 100000 in
/-- the seal of the first n bytes -/
theorem m_seal (l : Launch) (E : cv_E) (σ : cv_S) (bv : Nat → Nat) (n : Nat) (hn : n ≤ 300) (hbv : by_R (σ.1 58) bv n) (z : Int32) : cv_Mv l E yX6_seal wsX6_seal (cv_R 5) [.ref (E.2.1 49), .int (nI n), .int z] σ (fun τ => cv_fr [54, 55, 56] σ τ ∧ pu_eq 4 (τ.1 56) (pu_seal (σ.1 57) (σ.1 58) n z)) := by
  intro sz
  refine cv_in (ws := wsX6_seal) (cc := cX6_seal) (maxL := 6) (ret := none) (own := RX6) rfl (by decide) rfl (Nat.le_of_ble_eq_true rfl) ?_
  intro p e s m below meth c S K hr hlk hsz h ls hl
  have hl : lv_has ls 6 [(0, .ref (E.2.1 49)), (1, .int (nI n)), (2, .int z)] := hl
  have hinX6 : ∀ w ∈ u_ws RX6 TX6 18, w ∈ wsX6_seal := by decide +kernel
  have hf_35 := S.2.2.2.2 (.fieldLink RX6 35 "CrashVaultModel" "file" "[I") (by decide +kernel)
  have hbz : ∀ j, (fun j => if j < n then bv j else 0) j < 256 := by
    intro j
    by_cases hj : j < n
    · simp only [if_pos hj]; exact (hbv j hj).2
    · simp only [if_neg hj]; decide
  refine lv_aload_n S.1 S.2.1 dX6_seal_0 rfl (lv_at hl 0 rfl) ?_
  refine cv_callv (ci := 6) (C := RX6) (T := TX6) (N := 18) S K h hl.1 rfl rfl rfl (m_setMain l E σ) (cwV 0 S.2.2.2.2 gX6_seal_X6_setMain rfl rfl rfl (by decide +kernel) ⟨Nat.le_of_ble_eq_true rfl, Nat.le_of_ble_eq_true rfl⟩) rfl rfl (Nat.le_of_ble_eq_true rfl) ⟨Nat.zero_le _, Nat.zero_le _⟩ dX6_seal_1 (fun σ11 H locs hm h => ?_)
  refine lv_iconst (v := 0) S.1 S.2.1 dX6_seal_4 (by decide) ?_
  refine lv_istore_n (lv' := [(3, .int 0), (0, .ref (E.2.1 49)), (1, .int (nI n)), (2, .int z)]) S.1 S.2.1 dX6_seal_5 rfl hl (by decide) rfl (fun ls hl => ?_)
  refine cv_loop (α := Unit) (nL := 6) ((n + 3) / 4) (fun i a τ => cv_fr [54, 55, 56] σ τ ∧ pu_eq 4 (τ.1 56) (pu_chain (σ.1 57) (σ.1 58) n z i)) (fun i a => [(3, .int (nI i)), (0, .ref (E.2.1 49)), (1, .int (nI n)), (2, .int z)]) ?_ ?_ 0 () σ11 _ _ _ (by omega) (⟨hm.1.mono (by decide), hm.2⟩) h hl
  · intro i a τ H locs ls hi hI h hl ih
    have hl : lv_has ls 6 [(3, .int (nI i)), (0, .ref (E.2.1 49)), (1, .int (nI n)), (2, .int z)] := hl
    have h4i : 4 * i < n := by omega
    refine lv_iconst (v := 4) S.1 S.2.1 dX6_seal_6 (by decide) ?_
    refine lv_iload_n S.1 S.2.1 dX6_seal_7 rfl (lv_at hl 0 rfl) ?_
    refine lv_imul S.1 S.2.1 dX6_seal_8 ?_
    refine cv_rei (show (4 * ((nI i))) = nI (4 * i) from pk_mul 4 i) ?_
    refine lv_iload_n S.1 S.2.1 dX6_seal_9 rfl (lv_at hl 2 rfl) ?_
    refine lv_icmp_ge (tgt := 77) S.1 S.2.1 dX6_seal_10 (by decide) (fun c1 => ?_) (fun c1 => ?_)
    · exact absurd c1 (nI_ge h4i (by omega))
    · refine lv_iconst (v := 0) S.1 S.2.1 dX6_seal_13 (by decide) ?_
      refine lv_istore (lv' := [(4, .int 0), (3, .int (nI i)), (0, .ref (E.2.1 49)), (1, .int (nI n)), (2, .int z)]) S.1 S.2.1 dX6_seal_14 hl (by decide) rfl (fun ls hl => ?_)
      refine lv_iconst (v := 3) S.1 S.2.1 dX6_seal_16 (by decide) ?_
      refine lv_istore (lv' := [(5, .int 3), (4, .int 0), (3, .int (nI i)), (0, .ref (E.2.1 49)), (1, .int (nI n)), (2, .int z)]) S.1 S.2.1 dX6_seal_17 hl (by decide) rfl (fun ls hl => ?_)
      refine cv_loop (α := Unit) (nL := 6) 4 (fun t _ τ' => τ' = τ) (fun t _ => [(5, .int (3 - nI t)), (4, .int (nI (wz (fun j => if j < n then bv j else 0) (4 * i) t))), (3, .int (nI i)), (0, .ref (E.2.1 49)), (1, .int (nI n)), (2, .int z)]) ?_ ?_ 0 () τ _ _ _ (by omega) rfl h hl
      · intro t _ ρ H locs ls ht hρ h hl jh
        have hl : lv_has ls 6 [(5, .int (3 - nI t)), (4, .int (nI (wz (fun j => if j < n then bv j else 0) (4 * i) t))), (3, .int (nI i)), (0, .ref (E.2.1 49)), (1, .int (nI n)), (2, .int z)] := hl
        rw [hρ] at h
        have hj3 : (3 : Int32) - nI t = nI (3 - t) := pk_sub (a := 3) (by omega)
        have hwl := wz_lt hbz t (a := 4 * i)
        have hw2 : wz (fun j => if j < n then bv j else 0) (4 * i) t < 2 ^ 24 := Nat.lt_of_lt_of_le hwl (by have : 256 ^ t ≤ 256 ^ 3 := Nat.pow_le_pow_right (by decide) (by omega); omega)
        rw [hj3] at hl
        have hinc : nI (3 - t) + (-1) = (3 : Int32) - nI (t + 1) := by rcases (show t = 0 ∨ t = 1 ∨ t = 2 ∨ t = 3 by omega) with rfl | rfl | rfl | rfl <;> rfl
        refine lv_iload S.1 S.2.1 dX6_seal_19 (lv_at hl 0 rfl) ?_
        refine lv_if_lt (tgt := 63) S.1 S.2.1 dX6_seal_21 (by decide) (fun c2 => ?_) (fun c2 => ?_)
        · exact absurd c2 (nI_pos (by omega))
        · refine lv_iload S.1 S.2.1 dX6_seal_24 (lv_at hl 1 rfl) ?_
          refine lv_bipush (v := 8) S.1 S.2.1 dX6_seal_26 (by decide) ?_
          refine lv_ishl S.1 S.2.1 dX6_seal_28 ?_
          refine lv_iconst (v := 4) S.1 S.2.1 dX6_seal_29 (by decide) ?_
          refine lv_iload_n S.1 S.2.1 dX6_seal_30 rfl (lv_at hl 2 rfl) ?_
          refine lv_imul S.1 S.2.1 dX6_seal_31 ?_
          refine cv_rei (show (4 * ((nI i))) = nI (4 * i) from pk_mul 4 i) ?_
          refine lv_iload S.1 S.2.1 dX6_seal_32 (lv_at hl 0 rfl) ?_
          refine lv_iadd S.1 S.2.1 dX6_seal_34 ?_
          refine cv_rei (show (((nI (4 * i))) + ((nI (3 - t)))) = nI (4 * i + (3 - t)) from nI_add _ _) ?_
          refine lv_iload_n S.1 S.2.1 dX6_seal_35 rfl (lv_at hl 4 rfl) ?_
          refine lv_icmp_ge (tgt := 53) S.1 S.2.1 dX6_seal_36 (by decide) (fun c3 => ?_) (fun c3 => ?_)
          · have hge : ¬ 4 * i + (3 - t) < n := Nat.not_lt.mpr ((nI_leI (by omega) (by omega)).mp c3)
            refine lv_iconst (v := 0) S.1 S.2.1 dX6_seal_53 (by decide) ?_
            refine lv_ior S.1 S.2.1 dX6_seal_54 ?_
            refine cv_rei (show (((((nI (wz (fun j => if j < n then bv j else 0) (4 * i) t))) <<< (8 &&& 31))) ||| 0) = nI (wz (fun j => if j < n then bv j else 0) (4 * i) (t + 1)) from by rw [show (0 : Int32) = nI ((fun j => if j < n then bv j else 0) (4 * i + (3 - t))) from by simp only [if_neg hge]; rfl]; exact word_step hw2 (hbz (4 * i + (3 - t)))) ?_
            refine lv_istore (lv' := [(4, .int (nI (wz (fun j => if j < n then bv j else 0) (4 * i) (t + 1)))), (5, .int (nI (3 - t))), (3, .int (nI i)), (0, .ref (E.2.1 49)), (1, .int (nI n)), (2, .int z)]) S.1 S.2.1 dX6_seal_55 hl (by decide) rfl (fun ls hl => ?_)
            obtain ⟨z5, ez5⟩ : ∃ y : Int32, y = ((nI (3 - t))) + (-1) := ⟨_, rfl⟩
            refine lv_iinc (v := z5) (lv' := [(5, .int z5), (4, .int (nI (wz (fun j => if j < n then bv j else 0) (4 * i) (t + 1)))), (3, .int (nI i)), (0, .ref (E.2.1 49)), (1, .int (nI n)), (2, .int z)]) S.1 S.2.1 dX6_seal_57 hl (k := 1) rfl (by rw [ez5]; rfl) (by decide) rfl (fun ls hl => ?_)
            refine lv_goto (tgt := 19) S.1 S.2.1 dX6_seal_60 (by decide) ?_
            rw [ez5, hinc] at hl
            exact jh () τ H locs ls rfl h (lv_sub hl [0, 1, 2, 3, 4, 5] rfl)
          · have hlt : 4 * i + (3 - t) < n := Nat.not_le.mp (fun q => c3 (nI_le q (by omega)))
            have tb : τ.1 58 = σ.1 58 := hI.1.1 58 (by decide)
            refine lv_aload_n S.1 S.2.1 dX6_seal_39 rfl (lv_at hl 3 rfl) ?_
            refine cv_gf (ci := 6) (C := RX6) (T := TX6) (N := 18) (v := .ref (E.2.1 58)) S K h 49 rfl hinX6 rfl rfl 16 (by decide) hf_35 rfl rfl dX6_seal_40 ?_
            refine lv_iconst (v := 4) S.1 S.2.1 dX6_seal_43 (by decide) ?_
            refine lv_iload_n S.1 S.2.1 dX6_seal_44 rfl (lv_at hl 2 rfl) ?_
            refine lv_imul S.1 S.2.1 dX6_seal_45 ?_
            refine cv_rei (show (4 * ((nI i))) = nI (4 * i) from pk_mul 4 i) ?_
            refine lv_iload S.1 S.2.1 dX6_seal_46 (lv_at hl 0 rfl) ?_
            refine lv_iadd S.1 S.2.1 dX6_seal_48 ?_
            refine cv_rei (show (((nI (4 * i))) + ((nI (3 - t)))) = nI (4 * i + (3 - t)) from nI_add _ _) ?_
            refine cv_iald S K h 58 rfl (n := 300) rfl (4 * i + (3 - t)) rfl (by omega) dX6_seal_49 ?_
            refine lv_goto (tgt := 54) S.1 S.2.1 dX6_seal_50 (by decide) ?_
            refine lv_ior S.1 S.2.1 dX6_seal_54 ?_
            refine cv_rei (show (((((nI (wz (fun j => if j < n then bv j else 0) (4 * i) t))) <<< (8 &&& 31))) ||| ((τ.1 58 (4 * i + (3 - t))))) = nI (wz (fun j => if j < n then bv j else 0) (4 * i) (t + 1)) from by rw [show τ.1 58 (4 * i + (3 - t)) = nI ((fun j => if j < n then bv j else 0) (4 * i + (3 - t))) from by simp only [if_pos hlt]; rw [tb]; exact (hbv _ hlt).1]; exact word_step hw2 (hbz (4 * i + (3 - t)))) ?_
            refine lv_istore (lv' := [(4, .int (nI (wz (fun j => if j < n then bv j else 0) (4 * i) (t + 1)))), (5, .int (nI (3 - t))), (3, .int (nI i)), (0, .ref (E.2.1 49)), (1, .int (nI n)), (2, .int z)]) S.1 S.2.1 dX6_seal_55 hl (by decide) rfl (fun ls hl => ?_)
            obtain ⟨z5, ez5⟩ : ∃ y : Int32, y = ((nI (3 - t))) + (-1) := ⟨_, rfl⟩
            refine lv_iinc (v := z5) (lv' := [(5, .int z5), (4, .int (nI (wz (fun j => if j < n then bv j else 0) (4 * i) (t + 1)))), (3, .int (nI i)), (0, .ref (E.2.1 49)), (1, .int (nI n)), (2, .int z)]) S.1 S.2.1 dX6_seal_57 hl (k := 1) rfl (by rw [ez5]; rfl) (by decide) rfl (fun ls hl => ?_)
            refine lv_goto (tgt := 19) S.1 S.2.1 dX6_seal_60 (by decide) ?_
            rw [ez5, hinc] at hl
            exact jh () τ H locs ls rfl h (lv_sub hl [0, 1, 2, 3, 4, 5] rfl)
      · intro _ ρ H locs ls hρ h hl
        have hl : lv_has ls 6 [(5, .int (3 - nI 4)), (4, .int (nI (wz (fun j => if j < n then bv j else 0) (4 * i) 4))), (3, .int (nI i)), (0, .ref (E.2.1 49)), (1, .int (nI n)), (2, .int z)] := hl
        rw [hρ] at h
        refine lv_iload S.1 S.2.1 dX6_seal_19 (lv_at hl 0 rfl) ?_
        refine lv_if_lt (tgt := 63) S.1 S.2.1 dX6_seal_21 (by decide) (fun c2 => ?_) (fun c2 => ?_)
        · refine lv_aload_n S.1 S.2.1 dX6_seal_63 rfl (lv_at hl 3 rfl) ?_
          refine lv_iload S.1 S.2.1 dX6_seal_64 (lv_at hl 1 rfl) ?_
          refine lv_iload_n S.1 S.2.1 dX6_seal_66 rfl (lv_at hl 2 rfl) ?_
          refine lv_iload_n S.1 S.2.1 dX6_seal_67 rfl (lv_at hl 5 rfl) ?_
          refine cv_callv (ci := 6) (C := RX6) (T := TX6) (N := 18) S K h hl.1 rfl rfl rfl (m_next l E τ (nI (wz (fun j => if j < n then bv j else 0) (4 * i) 4)) (nI i) z) (cwV 3 S.2.2.2.2 gX6_seal_X6_next rfl rfl rfl (by decide +kernel) ⟨Nat.le_of_ble_eq_true rfl, Nat.le_of_ble_eq_true rfl⟩) rfl rfl (Nat.le_of_ble_eq_true rfl) ⟨Nat.zero_le _, Nat.zero_le _⟩ dX6_seal_68 (fun σ12 H locs hq2 h => ?_)
          obtain ⟨z5, ez5⟩ : ∃ y : Int32, y = ((nI i)) + 1 := ⟨_, rfl⟩
          refine lv_iinc (v := z5) (lv' := [(3, .int z5), (5, .int (3 - nI 4)), (4, .int (nI (wz (fun j => if j < n then bv j else 0) (4 * i) 4))), (0, .ref (E.2.1 49)), (1, .int (nI n)), (2, .int z)]) S.1 S.2.1 dX6_seal_71 hl (k := 2) rfl (by rw [ez5]; rfl) (by decide) rfl (fun ls hl => ?_)
          refine lv_goto (tgt := 6) S.1 S.2.1 dX6_seal_74 (by decide) ?_
          rw [ez5, nI_1] at hl
          refine ih () σ12 H locs ls ⟨hI.1.trans (hq2.1.mono (by decide)), ?_⟩ h (lv_sub hl [0, 3, 4, 5] rfl)
          have := hq2.2
          rw [pu_blk_eq hI.2, wz_nv, ← pu_word_nv hbv (Nat.le_refl n) h4i] at this
          exact this
        · exact absurd (show (3 : Int32) - nI 4 < 0 from by decide) c2
  · intro a τ H locs ls hI h hl
    have hl : lv_has ls 6 [(3, .int (nI ((n + 3) / 4))), (0, .ref (E.2.1 49)), (1, .int (nI n)), (2, .int z)] := hl
    refine lv_iconst (v := 4) S.1 S.2.1 dX6_seal_6 (by decide) ?_
    refine lv_iload_n S.1 S.2.1 dX6_seal_7 rfl (lv_at hl 0 rfl) ?_
    refine lv_imul S.1 S.2.1 dX6_seal_8 ?_
    refine cv_rei (show (4 * ((nI ((n + 3) / 4)))) = nI (4 * ((n + 3) / 4)) from pk_mul 4 _) ?_
    refine lv_iload_n S.1 S.2.1 dX6_seal_9 rfl (lv_at hl 2 rfl) ?_
    refine lv_icmp_ge (tgt := 77) S.1 S.2.1 dX6_seal_10 (by decide) (fun c1 => ?_) (fun c1 => ?_)
    · refine lv_aload_n S.1 S.2.1 dX6_seal_77 rfl (lv_at hl 1 rfl) ?_
      refine lv_iload_n S.1 S.2.1 dX6_seal_78 rfl (lv_at hl 2 rfl) ?_
      refine lv_iconst (v := (-1)) S.1 S.2.1 dX6_seal_79 (by decide) ?_
      refine lv_iload_n S.1 S.2.1 dX6_seal_80 rfl (lv_at hl 3 rfl) ?_
      refine cv_callv (ci := 6) (C := RX6) (T := TX6) (N := 18) S K h hl.1 rfl rfl rfl (m_next l E τ (nI n) (-1) z) (cwV 3 S.2.2.2.2 gX6_seal_X6_next rfl rfl rfl (by decide +kernel) ⟨Nat.le_of_ble_eq_true rfl, Nat.le_of_ble_eq_true rfl⟩) rfl rfl (Nat.le_of_ble_eq_true rfl) ⟨Nat.zero_le _, Nat.zero_le _⟩ dX6_seal_81 (fun σ13 H locs hq2 h => ?_)
      refine cv_vret S hr hlk hsz h ⟨hI.1.trans (hq2.1.mono (by decide)), ?_⟩ dX6_seal_84
      have := hq2.2
      rw [pu_blk_eq hI.2] at this
      exact this
    · exact absurd (nI_le (by omega) (by omega)) c1
