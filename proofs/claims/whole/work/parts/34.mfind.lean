/-! 34: the reference: find, move -/
/-- the entry j in σ' is the entry i in σ, all three values -/
def em_E (σ' : cv_S) (j : Nat) (σ : cv_S) (i : Nat) : Prop := σ'.2.1 51 j = σ.2.1 51 i ∧ σ'.1 52 j = σ.1 52 i ∧ ∀ k, k < 3 → σ'.2.1 53 (3 * j + k) = σ.2.1 53 (3 * i + k)
theorem em_E.rf {σ : cv_S} {j : Nat} : em_E σ j σ j := ⟨rfl, rfl, fun _ _ => rfl⟩
theorem em_E.trans {σ σ' σ'' : cv_S} {i j k : Nat} (h : em_E σ i σ' j) (h' : em_E σ' j σ'' k) : em_E σ i σ'' k := ⟨h.1.trans h'.1, h.2.1.trans h'.2.1, fun q hq => (h.2.2 q hq).trans (h'.2.2 q hq)⟩
/-- nothing but the entries, thrown and their number has changed -/
def mp_F (σ σ' : cv_S) : Prop := (∀ k, k ≠ 52 → σ'.1 k = σ.1 k) ∧ (∀ k, k ≠ 51 → k ≠ 53 → σ'.2.1 k = σ.2.1 k) ∧ (∀ k i, (k ≠ 49 ∨ (i ≠ 0 ∧ i ≠ 8)) → σ'.2.2.1 k i = σ.2.2.1 k i) ∧ σ'.2.2.2 = σ.2.2.2
theorem mp_F.rf {σ : cv_S} : mp_F σ σ := ⟨fun _ _ => rfl, fun _ _ _ => rfl, fun _ _ _ => rfl, rfl⟩
theorem mp_F.trans {σ σ' σ'' : cv_S} (h : mp_F σ σ') (h' : mp_F σ' σ'') : mp_F σ σ'' := ⟨fun k a => (h'.1 k a).trans (h.1 k a), fun k a b => (h'.2.1 k a b).trans (h.2.1 k a b), fun k i a => (h'.2.2.1 k i a).trans (h.2.2.1 k i a), h'.2.2.2.trans h.2.2.2⟩
theorem mp_uF {σ : cv_S} {i : Nat} {x : Int32} (hi : i = 0 ∨ i = 8) : mp_F σ (cv_uF σ 49 i x) := ⟨fun _ _ => rfl, fun _ _ _ => rfl, fun k j hk => by
  rw [cv_F3]
  by_cases h1 : k = 49
  · rw [if_pos h1, if_neg (by omega), h1]
  · rw [if_neg h1], rfl⟩
def em_C (σ σ' : cv_S) (i j : Nat) : Prop := em_E σ' j σ i ∧ (∀ q, q < 8 → q ≠ j → em_E σ' q σ q) ∧ mp_F σ σ' ∧ σ'.2.2 = σ.2.2
theorem em_E.R {σ σ' : cv_S} {i j : Nat} {N : Int64} {O : Nat} {V : Nat → Int64} (h : em_E σ' j σ i) (hr : σ.2.1 51 i = N ∧ σ.1 52 i = nI O ∧ O ≤ 2 ∧ ∀ k, k ≤ O → σ.2.1 53 (3 * i + k) = V k) : σ'.2.1 51 j = N ∧ σ'.1 52 j = nI O ∧ O ≤ 2 ∧ ∀ k, k ≤ O → σ'.2.1 53 (3 * j + k) = V k :=
  ⟨h.1.trans hr.1, h.2.1.trans hr.2.1, hr.2.2.1, fun k hk => (h.2.2 k (by have := hr.2.2.1; omega)).trans (hr.2.2.2 k hk)⟩
/-- what find answers -/
def fdR (σ : cv_S) (cnt : Nat) (nm : Int64) (r : Int32) : Prop := ∃ i, i ≤ cnt ∧ (∀ j, j < i → σ.2.1 51 j < nm) ∧ (i < cnt → ¬ σ.2.1 51 i < nm) ∧ ((i < cnt ∧ σ.2.1 51 i = nm ∧ r = nI i) ∨ ((i = cnt ∨ σ.2.1 51 i ≠ nm) ∧ r = -1 - nI i))

set_option maxHeartbeats 4000000 in
set_option maxRecDepth 100000 in
theorem m_find (l : Launch) (E : cv_E) (σ : cv_S) (cnt : Nat) (hc8 : cnt ≤ 8) (hct : σ.2.2.1 49 8 = nI cnt) (nm : Int64) : cv_Mi l E yX6_find wsX6_find (cv_R 1) [.ref (E.2.1 49), .long nm] σ (fun r τ => fdR σ cnt nm r ∧ τ = σ) := by
  intro sz
  refine cv_in (ws := wsX6_find) (cc := cX6_find) (maxL := 4) (ret := (some .int)) (own := RX6) rfl (by decide) rfl (Nat.le_of_ble_eq_true rfl) ?_
  intro p e s m below meth c S K hr hlk hsz h ls hl
  have hl : lv_has ls 4 [(0, .ref (E.2.1 49)), (1, .long nm)] := hl
  have hinX6 : ∀ w ∈ u_ws RX6 TX6 18, w ∈ wsX6_find := by decide +kernel
  have hf_13 := S.2.2.2.2 (.fieldLink RX6 13 "CrashVaultModel" "names" "[J") (by decide +kernel)
  have hf_78 := S.2.2.2.2 (.fieldLink RX6 78 "CrashVaultModel" "entries" "I") (by decide +kernel)
  refine lv_iconst (v := 0) S.1 S.2.1 dX6_find_0 (by decide) ?_
  refine lv_istore_n (lv' := [(3, .int 0), (0, .ref (E.2.1 49)), (1, .long nm)]) S.1 S.2.1 dX6_find_1 rfl hl (by decide) rfl (fun ls hl => ?_)
  have key : ∀ (i : Nat) (τ' : cv_S) (H : Heap) (locs : List Loc) (ls : Array Slot), i ≤ cnt → (∀ j, j < i → σ.2.1 51 j < nm) → (i < cnt → ¬ σ.2.1 51 i < nm) → τ' = σ → cv_H E τ' s H locs → lv_has ls 4 [(3, .int (nI i)), (0, .ref (E.2.1 49)), (1, .long nm)] → W p l e (cv_R 1) s m ([.ref (E.2.1 49), .long nm] : List Value).toArray below meth c H locs 0 0 (MQ below (va_Qi (fun r τ => fdR σ cnt nm r ∧ τ = σ) (cv_B E) (cv_A E sz)) ([.ref (E.2.1 49), .long nm] : List Value).toArray s 0 0 (cv_A E sz)) (F0 m 27 ls []) := by
    intro i τ' H locs ls g1 g2 g3 g4 h hl
    rw [g4] at h
    refine lv_iload_n S.1 S.2.1 dX6_find_27 rfl (lv_at hl 0 rfl) ?_
    refine lv_aload_n S.1 S.2.1 dX6_find_28 rfl (lv_at hl 1 rfl) ?_
    refine cv_gf (ci := 6) (C := RX6) (T := TX6) (N := 18) (v := .int (σ.2.2.1 49 8)) S K h 49 rfl hinX6 rfl rfl 8 (by decide) hf_78 rfl rfl dX6_find_29 ?_
    refine cv_rei (show (σ.2.2.1 49 8) = nI cnt from hct) ?_
    refine lv_icmp_ge (tgt := 50) S.1 S.2.1 dX6_find_32 (by decide) (fun c1 => ?_) (fun c1 => ?_)
    · have he : i = cnt := by have := (nI_leI (by omega) (by omega)).mp c1; omega
      refine lv_iconst (v := (-1)) S.1 S.2.1 dX6_find_50 (by decide) ?_
      refine lv_iload_n S.1 S.2.1 dX6_find_51 rfl (lv_at hl 0 rfl) ?_
      refine lv_isub S.1 S.2.1 dX6_find_52 ?_
      exact cv_iret S hr hlk hsz h ⟨⟨i, g1, g2, g3, Or.inr ⟨Or.inl he, rfl⟩⟩, rfl⟩ dX6_find_53
    · have hlt : i < cnt := Nat.not_le.mp (fun q => c1 (nI_le q (by omega)))
      refine lv_aload_n S.1 S.2.1 dX6_find_35 rfl (lv_at hl 1 rfl) ?_
      refine cv_gf (ci := 6) (C := RX6) (T := TX6) (N := 18) (v := .ref (E.2.1 51)) S K h 49 rfl hinX6 rfl rfl 9 (by decide) hf_13 rfl rfl dX6_find_36 ?_
      refine lv_iload_n S.1 S.2.1 dX6_find_39 rfl (lv_at hl 0 rfl) ?_
      refine cv_lald S K h 51 rfl (n := 8) rfl i rfl (by omega) dX6_find_40 ?_
      refine lv_lload_n S.1 S.2.1 dX6_find_41 rfl (lv_at hl 2 rfl) ?_
      refine W.lcmp S.1 S.2.1 dX6_find_42 ?_
      refine lv_if_ne (tgt := 50) S.1 S.2.1 dX6_find_43 (by decide) (fun c2 => ?_) (fun c2 => ?_)
      · refine lv_iconst (v := (-1)) S.1 S.2.1 dX6_find_50 (by decide) ?_
        refine lv_iload_n S.1 S.2.1 dX6_find_51 rfl (lv_at hl 0 rfl) ?_
        refine lv_isub S.1 S.2.1 dX6_find_52 ?_
        exact cv_iret S hr hlk hsz h ⟨⟨i, g1, g2, g3, Or.inr ⟨Or.inr (fun q => c2 (lg_eq0.mpr q)), rfl⟩⟩, rfl⟩ dX6_find_53
      · refine lv_iload_n S.1 S.2.1 dX6_find_46 rfl (lv_at hl 0 rfl) ?_
        refine lv_goto (tgt := 53) S.1 S.2.1 dX6_find_47 (by decide) ?_
        exact cv_iret S hr hlk hsz h ⟨⟨i, g1, g2, g3, Or.inl ⟨hlt, lg_eq0.mp c2, rfl⟩⟩, rfl⟩ dX6_find_53
  refine cv_loop (α := Unit) (nL := 4) cnt (fun i a τ => τ = σ ∧ ∀ j, j < i → σ.2.1 51 j < nm) (fun i a => [(3, .int (nI i)), (0, .ref (E.2.1 49)), (1, .long nm)]) ?_ ?_ 0 () σ _ _ _ (by omega) (⟨rfl, fun j hj => absurd hj (Nat.not_lt_zero j)⟩) h hl
  · intro i a τ H locs ls hi hI h hl ih
    have hl : lv_has ls 4 [(3, .int (nI i)), (0, .ref (E.2.1 49)), (1, .long nm)] := hl
    obtain ⟨g1, g2⟩ := hI
    rw [g1] at h
    refine lv_iload_n S.1 S.2.1 dX6_find_2 rfl (lv_at hl 0 rfl) ?_
    refine lv_aload_n S.1 S.2.1 dX6_find_3 rfl (lv_at hl 1 rfl) ?_
    refine cv_gf (ci := 6) (C := RX6) (T := TX6) (N := 18) (v := .int (σ.2.2.1 49 8)) S K h 49 rfl hinX6 rfl rfl 8 (by decide) hf_78 rfl rfl dX6_find_4 ?_
    refine cv_rei (show (σ.2.2.1 49 8) = nI cnt from hct) ?_
    refine lv_icmp_ge (tgt := 27) S.1 S.2.1 dX6_find_7 (by decide) (fun c1 => ?_) (fun c1 => ?_)
    · exact absurd c1 (nI_ge hi (by omega))
    · refine lv_aload_n S.1 S.2.1 dX6_find_10 rfl (lv_at hl 1 rfl) ?_
      refine cv_gf (ci := 6) (C := RX6) (T := TX6) (N := 18) (v := .ref (E.2.1 51)) S K h 49 rfl hinX6 rfl rfl 9 (by decide) hf_13 rfl rfl dX6_find_11 ?_
      refine lv_iload_n S.1 S.2.1 dX6_find_14 rfl (lv_at hl 0 rfl) ?_
      refine cv_lald S K h 51 rfl (n := 8) rfl i rfl (by omega) dX6_find_15 ?_
      refine lv_lload_n S.1 S.2.1 dX6_find_16 rfl (lv_at hl 2 rfl) ?_
      refine W.lcmp S.1 S.2.1 dX6_find_17 ?_
      refine lv_if_ge (tgt := 27) S.1 S.2.1 dX6_find_18 (by decide) (fun c2 => ?_) (fun c2 => ?_)
      · exact key i σ H locs ls (by omega) g2 (fun _ q => absurd (lg_lt0.mpr q) (Int32.not_lt.mpr c2)) rfl h hl
      · obtain ⟨z5, ez5⟩ : ∃ y : Int32, y = ((nI i)) + 1 := ⟨_, rfl⟩
        refine lv_iinc (v := z5) (lv' := [(3, .int z5), (0, .ref (E.2.1 49)), (1, .long nm)]) S.1 S.2.1 dX6_find_21 hl (k := 0) rfl (by rw [ez5]; rfl) (by decide) rfl (fun ls hl => ?_)
        refine lv_goto (tgt := 2) S.1 S.2.1 dX6_find_24 (by decide) ?_
        rw [ez5, nI_1] at hl
        refine ih () σ H locs ls ⟨rfl, fun j hj => ?_⟩ h hl
        by_cases hji : j = i
        · rw [hji]; exact lg_lt0.mp (Int32.not_le.mp c2)
        · exact g2 j (by omega)
  · intro a τ H locs ls hI h hl
    have hl : lv_has ls 4 [(3, .int (nI cnt)), (0, .ref (E.2.1 49)), (1, .long nm)] := hl
    obtain ⟨g1, g2⟩ := hI
    rw [g1] at h
    refine lv_iload_n S.1 S.2.1 dX6_find_2 rfl (lv_at hl 0 rfl) ?_
    refine lv_aload_n S.1 S.2.1 dX6_find_3 rfl (lv_at hl 1 rfl) ?_
    refine cv_gf (ci := 6) (C := RX6) (T := TX6) (N := 18) (v := .int (σ.2.2.1 49 8)) S K h 49 rfl hinX6 rfl rfl 8 (by decide) hf_78 rfl rfl dX6_find_4 ?_
    refine cv_rei (show (σ.2.2.1 49 8) = nI cnt from hct) ?_
    refine lv_icmp_ge (tgt := 27) S.1 S.2.1 dX6_find_7 (by decide) (fun c1 => ?_) (fun c1 => ?_)
    · exact key cnt σ H locs ls (Nat.le_refl _) g2 (fun q => absurd q (Nat.lt_irrefl _)) rfl h hl
    · exact absurd (Int32.le_refl _) c1

set_option maxHeartbeats 4000000 in
set_option maxRecDepth 100000 in
/-- the entry fi becomes the entry ti -/
theorem m_move (l : Launch) (E : cv_E) (σ : cv_S) (ti fi : Nat) (hti : ti < 8) (hfi : fi < 8) : cv_Mv l E yX6_move wsX6_move (cv_R 1) [.ref (E.2.1 49), .int (nI ti), .int (nI fi)] σ (fun τ => em_C σ τ fi ti) := by
  intro sz
  refine cv_in (ws := wsX6_move) (cc := cX6_move) (maxL := 4) (ret := none) (own := RX6) rfl (by decide) rfl (Nat.le_of_ble_eq_true rfl) ?_
  intro p e s m below meth c S K hr hlk hsz h ls hl
  have hl : lv_has ls 4 [(0, .ref (E.2.1 49)), (1, .int (nI ti)), (2, .int (nI fi))] := hl
  have hinX6 : ∀ w ∈ u_ws RX6 TX6 18, w ∈ wsX6_move := by decide +kernel
  have hf_13 := S.2.2.2.2 (.fieldLink RX6 13 "CrashVaultModel" "names" "[J") (by decide +kernel)
  have hf_17 := S.2.2.2.2 (.fieldLink RX6 17 "CrashVaultModel" "olds" "[I") (by decide +kernel)
  have hf_20 := S.2.2.2.2 (.fieldLink RX6 20 "CrashVaultModel" "values" "[J") (by decide +kernel)
  refine lv_aload_n S.1 S.2.1 dX6_move_0 rfl (lv_at hl 0 rfl) ?_
  refine cv_gf (ci := 6) (C := RX6) (T := TX6) (N := 18) (v := .ref (E.2.1 51)) S K h 49 rfl hinX6 rfl rfl 9 (by decide) hf_13 rfl rfl dX6_move_1 ?_
  refine lv_iload_n S.1 S.2.1 dX6_move_4 rfl (lv_at hl 1 rfl) ?_
  refine lv_aload_n S.1 S.2.1 dX6_move_5 rfl (lv_at hl 0 rfl) ?_
  refine cv_gf (ci := 6) (C := RX6) (T := TX6) (N := 18) (v := .ref (E.2.1 51)) S K h 49 rfl hinX6 rfl rfl 9 (by decide) hf_13 rfl rfl dX6_move_6 ?_
  refine lv_iload_n S.1 S.2.1 dX6_move_9 rfl (lv_at hl 2 rfl) ?_
  refine cv_lald S K h 51 rfl (n := 8) rfl fi rfl hfi dX6_move_10 ?_
  refine lv_topl (fun nx enx => ?_)
  refine cv_last (x := nx) S K h 51 rfl (n := 8) rfl ti rfl hti dX6_move_11 (fun σ14 H locs eσ14 h => ?_)
  refine lv_aload_n S.1 S.2.1 dX6_move_12 rfl (lv_at hl 0 rfl) ?_
  refine cv_gf (ci := 6) (C := RX6) (T := TX6) (N := 18) (v := .ref (E.2.1 52)) S K h 49 rfl hinX6 rfl rfl 10 (by decide) hf_17 rfl rfl dX6_move_13 ?_
  refine lv_iload_n S.1 S.2.1 dX6_move_16 rfl (lv_at hl 1 rfl) ?_
  refine lv_aload_n S.1 S.2.1 dX6_move_17 rfl (lv_at hl 0 rfl) ?_
  refine cv_gf (ci := 6) (C := RX6) (T := TX6) (N := 18) (v := .ref (E.2.1 52)) S K h 49 rfl hinX6 rfl rfl 10 (by decide) hf_17 rfl rfl dX6_move_18 ?_
  refine lv_iload_n S.1 S.2.1 dX6_move_21 rfl (lv_at hl 2 rfl) ?_
  refine cv_iald S K h 52 rfl (n := 8) rfl fi rfl hfi dX6_move_22 ?_
  refine lv_topi (fun ox eox => ?_)
  refine cv_iast (x := ox) S K h 52 rfl (n := 8) rfl ti rfl hti dX6_move_23 (fun σ15 H locs eσ15 h => ?_)
  refine lv_iconst (v := 0) S.1 S.2.1 dX6_move_24 (by decide) ?_
  refine lv_istore_n (lv' := [(3, .int 0), (0, .ref (E.2.1 49)), (1, .int (nI ti)), (2, .int (nI fi))]) S.1 S.2.1 dX6_move_25 rfl hl (by decide) rfl (fun ls hl => ?_)
  have hst : σ15.1 = va_up σ.1 52 (upd (σ.1 52) ti (σ.1 52 fi)) ∧ σ15.2.2 = σ.2.2 ∧ σ15.2.1 51 = vp_updL (σ.2.1 51) ti (σ.2.1 51 fi) ∧ (∀ k, k < 0 → σ15.2.1 53 (3 * ti + k) = σ.2.1 53 (3 * fi + k)) ∧ (∀ q, (∀ k, k < 0 → q ≠ 3 * ti + k) → σ15.2.1 53 q = σ.2.1 53 q) ∧ (∀ q, q ≠ 51 → q ≠ 53 → σ15.2.1 q = σ.2.1 q) := by
    have r3 : ∀ q, σ15.2.1 q = if q = 51 then vp_updL (σ.2.1 51) ti (σ.2.1 51 fi) else σ.2.1 q := fun q => by rw [eσ15, cv_I2, eσ14, enx]; rfl
    exact ⟨by rw [eσ15, eox, eσ14]; rfl, by rw [eσ15, eσ14]; rfl, by rw [r3, if_pos rfl], fun k hk => absurd hk (Nat.not_lt_zero k), fun q _ => by rw [r3, if_neg (by decide)], fun q h1 _ => by rw [r3, if_neg h1]⟩
  refine cv_loop (α := Unit) (nL := 4) 3 (fun i a τ => τ.1 = va_up σ.1 52 (upd (σ.1 52) ti (σ.1 52 fi)) ∧ τ.2.2 = σ.2.2 ∧ τ.2.1 51 = vp_updL (σ.2.1 51) ti (σ.2.1 51 fi) ∧ (∀ k, k < i → τ.2.1 53 (3 * ti + k) = σ.2.1 53 (3 * fi + k)) ∧ (∀ q, (∀ k, k < i → q ≠ 3 * ti + k) → τ.2.1 53 q = σ.2.1 53 q) ∧ (∀ q, q ≠ 51 → q ≠ 53 → τ.2.1 q = σ.2.1 q)) (fun i a => [(3, .int (nI i)), (0, .ref (E.2.1 49)), (1, .int (nI ti)), (2, .int (nI fi))]) ?_ ?_ 0 () σ15 _ _ _ (by omega) (hst) h hl
  · intro i a τ H locs ls hi hI h hl ih
    have hl : lv_has ls 4 [(3, .int (nI i)), (0, .ref (E.2.1 49)), (1, .int (nI ti)), (2, .int (nI fi))] := hl
    obtain ⟨g1, g2, g3, g4, g5, g6⟩ := hI
    refine lv_iload_n S.1 S.2.1 dX6_move_26 rfl (lv_at hl 0 rfl) ?_
    refine lv_iconst (v := 3) S.1 S.2.1 dX6_move_27 (by decide) ?_
    refine lv_icmp_ge (tgt := 57) S.1 S.2.1 dX6_move_28 (by decide) (fun c1 => ?_) (fun c1 => ?_)
    · exact absurd c1 (nI_ge (b := 3) hi (by decide))
    · refine lv_aload_n S.1 S.2.1 dX6_move_31 rfl (lv_at hl 1 rfl) ?_
      refine cv_gf (ci := 6) (C := RX6) (T := TX6) (N := 18) (v := .ref (E.2.1 53)) S K h 49 rfl hinX6 rfl rfl 11 (by decide) hf_20 rfl rfl dX6_move_32 ?_
      refine lv_iconst (v := 3) S.1 S.2.1 dX6_move_35 (by decide) ?_
      refine lv_iload_n S.1 S.2.1 dX6_move_36 rfl (lv_at hl 2 rfl) ?_
      refine lv_imul S.1 S.2.1 dX6_move_37 ?_
      refine cv_rei (show (3 * ((nI ti))) = nI (3 * ti) from pk_mul 3 ti) ?_
      refine lv_iload_n S.1 S.2.1 dX6_move_38 rfl (lv_at hl 0 rfl) ?_
      refine lv_iadd S.1 S.2.1 dX6_move_39 ?_
      refine cv_rei (show (((nI (3 * ti))) + ((nI i))) = nI (3 * ti + i) from nI_add _ _) ?_
      refine lv_aload_n S.1 S.2.1 dX6_move_40 rfl (lv_at hl 1 rfl) ?_
      refine cv_gf (ci := 6) (C := RX6) (T := TX6) (N := 18) (v := .ref (E.2.1 53)) S K h 49 rfl hinX6 rfl rfl 11 (by decide) hf_20 rfl rfl dX6_move_41 ?_
      refine lv_iconst (v := 3) S.1 S.2.1 dX6_move_44 (by decide) ?_
      refine lv_iload_n S.1 S.2.1 dX6_move_45 rfl (lv_at hl 3 rfl) ?_
      refine lv_imul S.1 S.2.1 dX6_move_46 ?_
      refine cv_rei (show (3 * ((nI fi))) = nI (3 * fi) from pk_mul 3 fi) ?_
      refine lv_iload_n S.1 S.2.1 dX6_move_47 rfl (lv_at hl 0 rfl) ?_
      refine lv_iadd S.1 S.2.1 dX6_move_48 ?_
      refine cv_rei (show (((nI (3 * fi))) + ((nI i))) = nI (3 * fi + i) from nI_add _ _) ?_
      refine cv_lald S K h 53 rfl (n := 24) rfl (3 * fi + i) rfl (by omega) dX6_move_49 ?_
      refine lv_topl (fun vx evx => ?_)
      refine cv_last (x := vx) S K h 53 rfl (n := 24) rfl (3 * ti + i) rfl (by omega) dX6_move_50 (fun σ16 H locs eσ16 h => ?_)
      obtain ⟨z5, ez5⟩ : ∃ y : Int32, y = ((nI i)) + 1 := ⟨_, rfl⟩
      refine lv_iinc (v := z5) (lv' := [(3, .int z5), (0, .ref (E.2.1 49)), (1, .int (nI ti)), (2, .int (nI fi))]) S.1 S.2.1 dX6_move_51 hl (k := 0) rfl (by rw [ez5]; rfl) (by decide) rfl (fun ls hl => ?_)
      refine lv_goto (tgt := 26) S.1 S.2.1 dX6_move_54 (by decide) ?_
      rw [ez5, nI_1] at hl
      refine ih () σ16 H locs ls ?_ h hl
      have r3 : ∀ q, σ16.2.1 q = if q = 53 then vp_updL (τ.2.1 53) (3 * ti + i) vx else τ.2.1 q := fun q => by rw [eσ16]; rfl
      have hvx : vx = σ.2.1 53 (3 * fi + i) := by rw [evx]; exact g5 _ (fun k hk => by omega)
      refine ⟨by rw [eσ16]; exact g1, by rw [eσ16]; exact g2, by rw [r3, if_neg (by decide)]; exact g3, fun k hk => ?_, fun q hq => ?_, fun q h1 h2 => by rw [r3, if_neg h2]; exact g6 q h1 h2⟩
      · rw [r3, if_pos rfl]
        by_cases hki : k = i
        · rw [hki, pk_uLs]; exact hvx
        · rw [pk_uLn (by omega)]; exact g4 k (by omega)
      · rw [r3, if_pos rfl, pk_uLn (hq i (by omega))]; exact g5 q (fun k hk => hq k (by omega))
  · intro a τ H locs ls hI h hl
    have hl : lv_has ls 4 [(3, .int (nI 3)), (0, .ref (E.2.1 49)), (1, .int (nI ti)), (2, .int (nI fi))] := hl
    obtain ⟨g1, g2, g3, g4, g5, g6⟩ := hI
    refine lv_iload_n S.1 S.2.1 dX6_move_26 rfl (lv_at hl 0 rfl) ?_
    refine lv_iconst (v := 3) S.1 S.2.1 dX6_move_27 (by decide) ?_
    refine lv_icmp_ge (tgt := 57) S.1 S.2.1 dX6_move_28 (by decide) (fun c1 => ?_) (fun c1 => ?_)
    · exact cv_vret S hr hlk hsz h ⟨⟨by rw [g3, pk_uLs], by rw [g1, va_up_self, pk_us], fun k hk => g4 k hk⟩, fun q hq hqj => ⟨by rw [g3, pk_uLn hqj], by rw [g1, va_up_self, pk_un hqj], fun k hk => g5 _ (fun k2 hk2 => by omega)⟩, ⟨fun k hk => by rw [g1, va_up_ne _ _ hk], g6, fun k i _ => by rw [g2], by rw [g2]⟩, g2⟩ dX6_move_57
    · exact absurd (Int32.le_refl _) c1
