/-! 40: the class: newestGood, saveInto, shut, isOpen -/
/-- nothing but the class has changed -/
def cl_F (σ τ : cv_S) : Prop := ∀ k, 49 ≤ k → τ.1 k = σ.1 k ∧ τ.2.1 k = σ.2.1 k ∧ τ.2.2.1 k = σ.2.2.1 k ∧ τ.2.2.2 k = σ.2.2.2 k
theorem cl_F.rf {σ : cv_S} : cl_F σ σ := fun _ _ => ⟨rfl, rfl, rfl, rfl⟩
theorem cl_F.trans {σ σ' σ'' : cv_S} (h : cl_F σ σ') (h' : cl_F σ' σ'') : cl_F σ σ'' := fun k hk => ⟨(h' k hk).1.trans (h k hk).1, (h' k hk).2.1.trans (h k hk).2.1, (h' k hk).2.2.1.trans (h k hk).2.2.1, (h' k hk).2.2.2.trans (h k hk).2.2.2⟩
theorem cl_uF {σ : cv_S} {q i : Nat} {x : Int32} (hq : q < 49) : cl_F σ (cv_uF σ q i x) := fun k hk => ⟨rfl, rfl, funext fun j => by rw [cv_F3, if_neg (by omega)], rfl⟩
theorem cl_uG {σ : cv_S} {q i : Nat} {x : Int64} (hq : q < 49) : cl_F σ (cv_uG σ q i x) := fun k hk => ⟨rfl, rfl, rfl, funext fun j => by rw [cv_G4, if_neg (by omega)]⟩
theorem cl_uI {σ : cv_S} {q : Nat} {g : Nat → Int32} (hq : q < 49) : cl_F σ (cv_uI σ q g) := fun k hk => ⟨by rw [cv_I1, if_neg (by omega)], rfl, rfl, rfl⟩
theorem cl_el {v : Nat} {σ τ : cv_S} (hv : v < 3) (h : el_F v σ τ) : cl_F σ τ := fun k hk => ⟨h.1 k (by omega), h.2.1 k (by omega) (fun i hi => by omega), funext fun i => h.2.2.1 k i (Or.inl (by omega)), by rw [h.2.2.2]⟩
theorem cl_ff {v : Nat} {σ τ : cv_S} (hv : v < 3) (h : ff_F v σ τ) : cl_F σ τ := fun k hk => ⟨h.1 k (by simp; omega) (by omega), h.2.1 k (by omega) (fun i hi => by omega), funext fun i => h.2.2.1 k i (Or.inl (by omega)) (by omega), funext fun i => h.2.2.2 k i (by omega)⟩
/-- what a good slot's vault is -/
def gV (τ : cv_S) (v : Nat) (bv : Nat → Nat) (pw : Int64) : Prop := τ.2.2.2 (v + 10) 1 = pw ∧ τ.2.2.1 (v + 10) 2 = nI (nv bv 6 4) ∧ τ.2.2.1 (v + 10) 3 = nI (bv 10) ∧ τ.2.2.1 (v + 10) 4 = nI (nv bv 2 4) ∧ el_R τ v (sp bv pw 21) (pN (sp bv pw)) (pO (sp bv pw)) (pV (sp bv pw))
/-- nothing but the form's rows and the two found ones have changed -/
def ng_F (σ τ : cv_S) : Prop := (∀ k, k ∉ [4, 5, 6, 7, 9, 20, 21] → τ.1 k = σ.1 k) ∧ (∀ k, (k = 16 ∨ (25 ≤ k ∧ k < 33) ∨ 49 ≤ k) → τ.2.1 k = σ.2.1 k) ∧ (∀ k i, k ∉ [11, 12, 14, 15] → τ.2.2.1 k i = σ.2.2.1 k i) ∧ (∀ k i, k ∉ [11, 12] → τ.2.2.2 k i = σ.2.2.2 k i)
theorem ng_F.trans {σ σ' σ'' : cv_S} (h : ng_F σ σ') (h' : ng_F σ' σ'') : ng_F σ σ'' := ⟨fun k a => (h'.1 k a).trans (h.1 k a), fun k a => (h'.2.1 k a).trans (h.2.1 k a), fun k i a => (h'.2.2.1 k i a).trans (h.2.2.1 k i a), fun k i a => (h'.2.2.2 k i a).trans (h.2.2.2 k i a)⟩
theorem ng_ff {v : Nat} {σ τ : cv_S} (hv : v = 1 ∨ v = 2) (h : ff_F v σ τ) : ng_F σ τ :=
  ⟨fun k a => h.1 k (fun z => a (by simp at z ⊢; omega)) (fun z => a (by simp; omega)), fun k a => h.2.1 k (by omega) (fun i hi => by omega), fun k i a => h.2.2.1 k i (Or.inl (fun z => a (by simp; omega))) (fun z => a (by simp; omega)), fun k i a => h.2.2.2 k i (fun z => a (by simp; omega))⟩
theorem cl_ng {σ τ : cv_S} (h : ng_F σ τ) : cl_F σ τ := fun k hk => ⟨h.1 k (by simp; omega), h.2.1 k (by omega), funext fun i => h.2.2.1 k i (by simp; omega), funext fun i => h.2.2.2 k i (by simp; omega)⟩
theorem el_ng {σ τ : cv_S} {cnt : Nat} {N : Nat → Int64} {O : Nat → Nat} {V : Nat → Nat → Int64} (h : ng_F σ τ) (hR : el_R σ 0 cnt N O V) : el_R τ 0 cnt N O V := by
  obtain ⟨q1, q2, q3⟩ := hR
  refine ⟨by rw [h.2.2.1 _ _ (by decide)]; exact q1, q2, fun i hi => ?_⟩
  rw [h.2.1 (0 + 16) (by omega), h.1 (0 + 19) (by decide), h.2.1 (8 * 0 + i + 25) (by omega)]
  exact q3 i hi
theorem gV_ff {σ τ : cv_S} {bv : Nat → Nat} {pw : Int64} (h : ff_F 2 σ τ) (g : gV σ 1 bv pw) : gV τ 1 bv pw := by
  obtain ⟨g1, g2, g3, g4, q1, q2, q3⟩ := g
  refine ⟨by rw [h.2.2.2 _ _ (by decide)]; exact g1, by rw [h.2.2.1 _ _ (by decide) (by decide)]; exact g2, by rw [h.2.2.1 _ _ (by decide) (by decide)]; exact g3, by rw [h.2.2.1 _ _ (by decide) (by decide)]; exact g4, by rw [h.2.2.1 _ _ (by decide) (by decide)]; exact q1, q2, fun i hi => ?_⟩
  rw [h.2.1 (1 + 16) (by decide) (fun j hj => by omega), h.1 (1 + 19) (by decide) (by decide), h.2.1 (8 * 1 + i + 25) (by omega) (fun j hj => by omega)]
  exact q3 i hi
theorem cv_minq {q n : Nat} (hq : q < 2 ^ 31) (hn : n < 2 ^ 31) : (if nI n < nI q then nI n else nI q) = nI (min q n) := by
  by_cases h : n < q
  · rw [if_pos (nI_lt h hq), Nat.min_eq_right (by omega)]
  · rw [if_neg (nI_nlt (by omega) hn), Nat.min_eq_left (by omega)]
/-- what is saved, and what is not -/
def sc_F (σ τ : cv_S) : Prop := (∀ k, k ∉ [1, 4, 5, 6, 7, 9] → τ.1 k = σ.1 k) ∧ τ.2.1 = σ.2.1 ∧ (∀ k i, (k ≠ 0 ∨ i ≠ 5) → (k ≠ 10 ∨ i ≠ 4) → τ.2.2.1 k i = σ.2.2.1 k i) ∧ (∀ k i, (k ≠ 0 ∨ i ≠ 6) → τ.2.2.2 k i = σ.2.2.2 k i)
theorem cl_sc {σ τ : cv_S} (h : sc_F σ τ) : cl_F σ τ := fun k hk => ⟨h.1 k (by simp; omega), by rw [h.2.1], funext fun i => h.2.2.1 k i (Or.inl (by omega)) (Or.inl (by omega)), funext fun i => h.2.2.2 k i (Or.inl (by omega))⟩
theorem el_sc {σ τ : cv_S} {cnt : Nat} {N : Nat → Int64} {O : Nat → Nat} {V : Nat → Nat → Int64} (h : sc_F σ τ) (hR : el_R σ 0 cnt N O V) : el_R τ 0 cnt N O V := by
  obtain ⟨q1, q2, q3⟩ := hR
  refine ⟨by rw [h.2.2.1 _ _ (Or.inl (by decide)) (Or.inl (by decide))]; exact q1, q2, fun i hi => ?_⟩
  rw [h.2.1, h.1 (0 + 19) (by decide)]
  exact q3 i hi
/-- what saveInto does: q the power, sl the slot -/
def scM (σ : cv_S) (dv : Nat → Nat) (pw : Int64) (sa sr : Int32) (rd cnt : Nat) (N : Nat → Int64) (O : Nat → Nat) (V : Nat → Nat → Int64) (a q : Nat) (r : Int32) (τ : cv_S) : Prop :=
  sc_F σ τ ∧ by_R (τ.1 1) (sdv dv a (fl pw sa (sr + 1) rd (co_l N O V cnt cnt)) (min q (29 + co_sz O cnt))) 600 ∧ τ.2.2.2 0 6 = pw ∧ τ.2.2.1 10 4 = sr + 1 ∧ ((29 + co_sz O cnt ≤ q ∧ r = 1 ∧ τ.2.2.1 0 5 = 1) ∨ (q < 29 + co_sz O cnt ∧ r = 0 ∧ τ.2.2.1 0 5 = 0))

set_option maxHeartbeats 4000000 in
set_option maxRecDepth 100000 in
/-- the newest good slot -/
theorem c_newestGood (l : Launch) (E : cv_E) (σ : cv_S) (dv : Nat → Nat) (hdv : by_R (σ.1 1) dv 600) (pw : Int64) : cv_Mi l E yX5_newestGood wsX5_newestGood (cv_R 6) [.ref (E.2.1 0), .long pw] σ (fun r τ => ng_F σ τ ∧ nwR r dv (fun q => dv (300 + q)) pw ∧ (gd dv pw → gV τ 1 dv pw) ∧ (gd (fun q => dv (300 + q)) pw → gV τ 2 (fun q => dv (300 + q)) pw)) := by
  intro sz
  refine cv_in (ws := wsX5_newestGood) (cc := cX5_newestGood) (maxL := 5) (ret := (some .int)) (own := RX5) rfl (by decide) rfl (Nat.le_of_ble_eq_true rfl) ?_
  intro p e s m below meth c S K hr hlk hsz h ls hl
  have hl : lv_has ls 5 [(0, .ref (E.2.1 0)), (1, .long pw)] := hl
  have hinX4 : ∀ w ∈ u_ws RX4 TX4 5, w ∈ wsX5_newestGood := by decide +kernel
  have hinX5 : ∀ w ∈ u_ws RX5 TX5 7, w ∈ wsX5_newestGood := by decide +kernel
  have hf_16 := S.2.2.2.2 (.fieldLink RX5 16 "CrashVault" "form" "LCrashVault$FileForm;") (by decide +kernel)
  have hf_27 := S.2.2.2.2 (.fieldLink RX5 27 "CrashVault" "found0" "LCrashVault$Vault;") (by decide +kernel)
  have hf_30 := S.2.2.2.2 (.fieldLink RX5 30 "CrashVault" "found1" "LCrashVault$Vault;") (by decide +kernel)
  have hf_9 := S.2.2.2.2 (.fieldLink RX5 9 "CrashVault" "diskBytes" "[I") (by decide +kernel)
  refine lv_aload_n S.1 S.2.1 dX5_newestGood_0 rfl (lv_at hl 0 rfl) ?_
  refine cv_gf (ci := 5) (C := RX5) (T := TX5) (N := 7) (v := .ref (E.2.1 2)) S K h 0 rfl hinX5 rfl rfl 1 (by decide) hf_16 rfl rfl dX5_newestGood_1 ?_
  refine lv_aload_n S.1 S.2.1 dX5_newestGood_4 rfl (lv_at hl 0 rfl) ?_
  refine cv_gf (ci := 5) (C := RX5) (T := TX5) (N := 7) (v := .ref (E.2.1 1)) S K h 0 rfl hinX5 rfl rfl 0 (by decide) hf_9 rfl rfl dX5_newestGood_5 ?_
  refine lv_iconst (v := 0) S.1 S.2.1 dX5_newestGood_8 (by decide) ?_
  refine lv_lload_n S.1 S.2.1 dX5_newestGood_9 rfl (lv_at hl 1 rfl) ?_
  refine lv_aload_n S.1 S.2.1 dX5_newestGood_10 rfl (lv_at hl 0 rfl) ?_
  refine cv_gf (ci := 5) (C := RX5) (T := TX5) (N := 7) (v := .ref (E.2.1 11)) S K h 0 rfl hinX5 rfl rfl 3 (by decide) hf_27 rfl rfl dX5_newestGood_11 ?_
  refine cv_calli (ci := 3) (C := RX3) (T := TX3) (N := 2) S K h hl.1 rfl rfl rfl (c_readFile l E σ 1 (by decide) 0 (by decide) dv (fun j hj => by rw [Nat.zero_add]; exact hdv j (by omega)) pw) (cwV 4 S.2.2.2.2 gX5_newestGood_X3_readFile rfl rfl rfl (by decide +kernel) ⟨Nat.le_of_ble_eq_true rfl, Nat.le_of_ble_eq_true rfl⟩) rfl rfl (Nat.le_of_ble_eq_true rfl) ⟨Nat.zero_le _, Nat.zero_le _⟩ dX5_newestGood_14 (fun g0 σ1 H locs h1 h => ?_)
  refine lv_istore_n (lv' := [(3, .int g0), (0, .ref (E.2.1 0)), (1, .long pw)]) S.1 S.2.1 dX5_newestGood_17 rfl hl (by decide) rfl (fun ls hl => ?_)
  refine lv_aload_n S.1 S.2.1 dX5_newestGood_18 rfl (lv_at hl 1 rfl) ?_
  refine cv_gf (ci := 5) (C := RX5) (T := TX5) (N := 7) (v := .ref (E.2.1 2)) S K h 0 rfl hinX5 rfl rfl 1 (by decide) hf_16 rfl rfl dX5_newestGood_19 ?_
  refine lv_aload_n S.1 S.2.1 dX5_newestGood_22 rfl (lv_at hl 1 rfl) ?_
  refine cv_gf (ci := 5) (C := RX5) (T := TX5) (N := 7) (v := .ref (E.2.1 1)) S K h 0 rfl hinX5 rfl rfl 0 (by decide) hf_9 rfl rfl dX5_newestGood_23 ?_
  refine lv_sipush (v := 300) S.1 S.2.1 dX5_newestGood_26 (by decide) ?_
  refine lv_lload_n S.1 S.2.1 dX5_newestGood_29 rfl (lv_at hl 2 rfl) ?_
  refine lv_aload_n S.1 S.2.1 dX5_newestGood_30 rfl (lv_at hl 1 rfl) ?_
  refine cv_gf (ci := 5) (C := RX5) (T := TX5) (N := 7) (v := .ref (E.2.1 12)) S K h 0 rfl hinX5 rfl rfl 4 (by decide) hf_30 rfl rfl dX5_newestGood_31 ?_
  refine cv_calli (ci := 3) (C := RX3) (T := TX3) (N := 2) S K h hl.1 rfl rfl rfl (c_readFile l E σ1 2 (by decide) 300 (by decide) (fun q => dv (300 + q)) (fun j hj => by rw [h1.1.1 1 (by decide) (by decide)]; exact hdv (300 + j) (by omega)) pw) (cwV 4 S.2.2.2.2 gX5_newestGood_X3_readFile rfl rfl rfl (by decide +kernel) ⟨Nat.le_of_ble_eq_true rfl, Nat.le_of_ble_eq_true rfl⟩) rfl rfl (Nat.le_of_ble_eq_true rfl) ⟨Nat.zero_le _, Nat.zero_le _⟩ dX5_newestGood_34 (fun g1 σ2 H locs h2 h => ?_)
  have hng : ng_F σ σ2 := (ng_ff (Or.inl rfl) h1.1).trans (ng_ff (Or.inr rfl) h2.1)
  refine lv_istore (lv' := [(4, .int g1), (3, .int g0), (0, .ref (E.2.1 0)), (1, .long pw)]) S.1 S.2.1 dX5_newestGood_37 hl (by decide) rfl (fun ls hl => ?_)
  rcases h1.2 with ⟨e0, x0⟩ | ⟨e0, x0⟩ <;> rcases h2.2 with ⟨e1, x1⟩ | ⟨e1, x1⟩
  · subst e0
    subst e1
    have hA : gd dv pw → gV σ2 1 dv pw := fun _ => gV_ff h2.1 x0.2
    have hB : gd (fun q => dv (300 + q)) pw → gV σ2 2 (fun q => dv (300 + q)) pw := fun _ => x1.2
    refine lv_iload_n S.1 S.2.1 dX5_newestGood_39 rfl (lv_at hl 1 rfl) ?_
    refine lv_if_eq (tgt := 71) S.1 S.2.1 dX5_newestGood_40 (by decide) (fun c3 => ?_) (fun c3 => ?_)
    · exact absurd c3 (by decide)
    · refine lv_iload S.1 S.2.1 dX5_newestGood_43 (lv_at hl 0 rfl) ?_
      refine lv_if_eq (tgt := 71) S.1 S.2.1 dX5_newestGood_45 (by decide) (fun c4 => ?_) (fun c4 => ?_)
      · exact absurd c4 (by decide)
      · refine lv_aload_n S.1 S.2.1 dX5_newestGood_48 rfl (lv_at hl 2 rfl) ?_
        refine cv_gf (ci := 5) (C := RX5) (T := TX5) (N := 7) (v := .ref (E.2.1 12)) S K h 0 rfl hinX5 rfl rfl 4 (by decide) hf_30 rfl rfl dX5_newestGood_49 ?_
        refine cv_gfN (ci := 4) (C := RX4) (T := TX4) (N := 5) (v := .int (σ2.2.2.1 12 4)) S K h 12 rfl hinX4 rfl rfl 4 (by decide) (cv_nest_9 K) rfl rfl dX5_newestGood_52 ?_
        refine cv_rei (show (σ2.2.2.1 12 4) = nI (nv (fun q => dv (300 + q)) 2 4) from (hB x1.1).2.2.2.1) ?_
        refine lv_aload_n S.1 S.2.1 dX5_newestGood_55 rfl (lv_at hl 2 rfl) ?_
        refine cv_gf (ci := 5) (C := RX5) (T := TX5) (N := 7) (v := .ref (E.2.1 11)) S K h 0 rfl hinX5 rfl rfl 3 (by decide) hf_27 rfl rfl dX5_newestGood_56 ?_
        refine cv_gfN (ci := 4) (C := RX4) (T := TX4) (N := 5) (v := .int (σ2.2.2.1 11 4)) S K h 11 rfl hinX4 rfl rfl 4 (by decide) (cv_nest_9 K) rfl rfl dX5_newestGood_59 ?_
        refine cv_rei (show (σ2.2.2.1 11 4) = nI (nv dv 2 4) from (hA x0.1).2.2.2.1) ?_
        refine lv_icmp_le (tgt := 69) S.1 S.2.1 dX5_newestGood_62 (by decide) (fun c5 => ?_) (fun c5 => ?_)
        · refine lv_iconst (v := 0) S.1 S.2.1 dX5_newestGood_69 (by decide) ?_
          exact cv_iret S hr hlk hsz h ⟨hng, Or.inl ⟨rfl, x0.1, fun _ => c5⟩, hA, hB⟩ dX5_newestGood_70
        · refine lv_iconst (v := 1) S.1 S.2.1 dX5_newestGood_65 (by decide) ?_
          refine lv_goto (tgt := 70) S.1 S.2.1 dX5_newestGood_66 (by decide) ?_
          exact cv_iret S hr hlk hsz h ⟨hng, Or.inr (Or.inl ⟨rfl, x1.1, fun _ => Int32.not_le.mp c5⟩), hA, hB⟩ dX5_newestGood_70
  · subst e0
    subst e1
    have hA : gd dv pw → gV σ2 1 dv pw := fun _ => gV_ff h2.1 x0.2
    have hB : gd (fun q => dv (300 + q)) pw → gV σ2 2 (fun q => dv (300 + q)) pw := fun z => absurd z x1
    refine lv_iload_n S.1 S.2.1 dX5_newestGood_39 rfl (lv_at hl 1 rfl) ?_
    refine lv_if_eq (tgt := 71) S.1 S.2.1 dX5_newestGood_40 (by decide) (fun c6 => ?_) (fun c6 => ?_)
    · exact absurd c6 (by decide)
    · refine lv_iload S.1 S.2.1 dX5_newestGood_43 (lv_at hl 0 rfl) ?_
      refine lv_if_eq (tgt := 71) S.1 S.2.1 dX5_newestGood_45 (by decide) (fun c7 => ?_) (fun c7 => ?_)
      · refine lv_iload_n S.1 S.2.1 dX5_newestGood_71 rfl (lv_at hl 1 rfl) ?_
        refine lv_if_eq (tgt := 77) S.1 S.2.1 dX5_newestGood_72 (by decide) (fun c8 => ?_) (fun c8 => ?_)
        · exact absurd c8 (by decide)
        · refine lv_iconst (v := 0) S.1 S.2.1 dX5_newestGood_75 (by decide) ?_
          exact cv_iret S hr hlk hsz h ⟨hng, Or.inl ⟨rfl, x0.1, fun z => absurd z x1⟩, hA, hB⟩ dX5_newestGood_76
      · exact absurd c7 (by decide)
  · subst e0
    subst e1
    have hA : gd dv pw → gV σ2 1 dv pw := fun z => absurd z x0
    have hB : gd (fun q => dv (300 + q)) pw → gV σ2 2 (fun q => dv (300 + q)) pw := fun _ => x1.2
    refine lv_iload_n S.1 S.2.1 dX5_newestGood_39 rfl (lv_at hl 1 rfl) ?_
    refine lv_if_eq (tgt := 71) S.1 S.2.1 dX5_newestGood_40 (by decide) (fun c9 => ?_) (fun c9 => ?_)
    · refine lv_iload_n S.1 S.2.1 dX5_newestGood_71 rfl (lv_at hl 1 rfl) ?_
      refine lv_if_eq (tgt := 77) S.1 S.2.1 dX5_newestGood_72 (by decide) (fun c10 => ?_) (fun c10 => ?_)
      · refine lv_iload S.1 S.2.1 dX5_newestGood_77 (lv_at hl 0 rfl) ?_
        refine lv_if_eq (tgt := 86) S.1 S.2.1 dX5_newestGood_79 (by decide) (fun c11 => ?_) (fun c11 => ?_)
        · exact absurd c11 (by decide)
        · refine lv_iconst (v := 1) S.1 S.2.1 dX5_newestGood_82 (by decide) ?_
          refine lv_goto (tgt := 87) S.1 S.2.1 dX5_newestGood_83 (by decide) ?_
          exact cv_iret S hr hlk hsz h ⟨hng, Or.inr (Or.inl ⟨rfl, x1.1, fun z => absurd z x0⟩), hA, hB⟩ dX5_newestGood_87
      · exact absurd c10 (by decide)
    · exact absurd c9 (by decide)
  · subst e0
    subst e1
    have hA : gd dv pw → gV σ2 1 dv pw := fun z => absurd z x0
    have hB : gd (fun q => dv (300 + q)) pw → gV σ2 2 (fun q => dv (300 + q)) pw := fun z => absurd z x1
    refine lv_iload_n S.1 S.2.1 dX5_newestGood_39 rfl (lv_at hl 1 rfl) ?_
    refine lv_if_eq (tgt := 71) S.1 S.2.1 dX5_newestGood_40 (by decide) (fun c12 => ?_) (fun c12 => ?_)
    · refine lv_iload_n S.1 S.2.1 dX5_newestGood_71 rfl (lv_at hl 1 rfl) ?_
      refine lv_if_eq (tgt := 77) S.1 S.2.1 dX5_newestGood_72 (by decide) (fun c13 => ?_) (fun c13 => ?_)
      · refine lv_iload S.1 S.2.1 dX5_newestGood_77 (lv_at hl 0 rfl) ?_
        refine lv_if_eq (tgt := 86) S.1 S.2.1 dX5_newestGood_79 (by decide) (fun c14 => ?_) (fun c14 => ?_)
        · refine lv_iconst (v := (-1)) S.1 S.2.1 dX5_newestGood_86 (by decide) ?_
          exact cv_iret S hr hlk hsz h ⟨hng, Or.inr (Or.inr ⟨rfl, x0, x1⟩), hA, hB⟩ dX5_newestGood_87
        · exact absurd c14 (by decide)
      · exact absurd c13 (by decide)
    · exact absurd c12 (by decide)

set_option maxHeartbeats 4000000 in
set_option maxRecDepth 100000 in
/-- the vault is saved into a slot with the power q -/
theorem c_saveInto (l : Launch) (E : cv_E) (σ : cv_S) (dv : Nat → Nat) (hdv : by_R (σ.1 1) dv 600) (pw : Int64) (sa sr : Int32) (rd cnt : Nat) (N : Nat → Int64) (O : Nat → Nat) (V : Nat → Nat → Int64) (hrd40 : rd ≤ 40) (hpw : σ.2.2.2 10 1 = pw) (hsa : σ.2.2.1 10 2 = sa) (hrd : σ.2.2.1 10 3 = nI rd) (hsr : σ.2.2.1 10 4 = sr) (hR : el_R σ 0 cnt N O V) (sl : Nat) (hsl : sl ≤ 1) (q : Nat) (hq : q < 2 ^ 31) : cv_Mi l E yX5_saveInto wsX5_saveInto (cv_R 6) [.ref (E.2.1 0), .int (nI sl), .int (nI q)] σ (fun r τ => scM σ dv pw sa sr rd cnt N O V (300 * sl) q r τ) := by
  intro sz
  refine cv_in (ws := wsX5_saveInto) (cc := cX5_saveInto) (maxL := 4) (ret := (some .boolean)) (own := RX5) rfl (by decide) rfl (Nat.le_of_ble_eq_true rfl) ?_
  intro p e s m below meth c S K hr hlk hsz h ls hl
  have hl : lv_has ls 4 [(0, .ref (E.2.1 0)), (1, .int (nI sl)), (2, .int (nI q))] := hl
  have hinX0 : ∀ w ∈ u_ws RX0 TX0 1, w ∈ wsX5_saveInto := by decide +kernel
  have hinX3 : ∀ w ∈ u_ws RX3 TX3 2, w ∈ wsX5_saveInto := by decide +kernel
  have hinX4 : ∀ w ∈ u_ws RX4 TX4 5, w ∈ wsX5_saveInto := by decide +kernel
  have hinX5 : ∀ w ∈ u_ws RX5 TX5 7, w ∈ wsX5_saveInto := by decide +kernel
  have hf_16 := S.2.2.2.2 (.fieldLink RX5 16 "CrashVault" "form" "LCrashVault$FileForm;") (by decide +kernel)
  have hf_23 := S.2.2.2.2 (.fieldLink RX5 23 "CrashVault" "vault" "LCrashVault$Vault;") (by decide +kernel)
  have hf_33 := S.2.2.2.2 (.fieldLink RX5 33 "CrashVault" "opened" "Z") (by decide +kernel)
  have hf_82 := S.2.2.2.2 (.fieldLink RX5 82 "CrashVault" "savedPassword" "J") (by decide +kernel)
  have hf_9 := S.2.2.2.2 (.fieldLink RX5 9 "CrashVault" "diskBytes" "[I") (by decide +kernel)
  have hFl : (fl pw sa (sr + 1) rd (co_l N O V cnt cnt)).length = 29 + co_sz O cnt := by rw [fl_len, co_l_len]
  have hn8 : co_sz O cnt ≤ 265 := by
    have h1 := co_sz_le (n := cnt) (fun i hi => (hR.2.2 i hi).2.2.1)
    have h2 := hR.2.1
    omega
  refine lv_aload_n S.1 S.2.1 dX5_saveInto_0 rfl (lv_at hl 0 rfl) ?_
  refine cv_gf (ci := 5) (C := RX5) (T := TX5) (N := 7) (v := .ref (E.2.1 10)) S K h 0 rfl hinX5 rfl rfl 2 (by decide) hf_23 rfl rfl dX5_saveInto_1 ?_
  refine lv_dup S.1 S.2.1 dX5_saveInto_4 rfl ?_
  refine cv_gfN (ci := 4) (C := RX4) (T := TX4) (N := 5) (v := .int (σ.2.2.1 10 4)) S K h 10 rfl hinX4 rfl rfl 4 (by decide) (cv_nest_9 K) rfl rfl dX5_saveInto_5 ?_
  refine cv_rei (show (σ.2.2.1 10 4) = sr from hsr) ?_
  refine lv_iconst (v := 1) S.1 S.2.1 dX5_saveInto_8 (by decide) ?_
  refine lv_iadd S.1 S.2.1 dX5_saveInto_9 ?_
  refine lv_topi (fun ns ens => ?_)
  refine cv_pfN (ci := 4) (C := RX4) (T := TX4) (N := 5) (x := ns) S K h 10 rfl hinX4 rfl rfl 4 cv_pok_X4_4 (cv_nest_9 K) rfl rfl rfl (Nat.le_of_ble_eq_true rfl) rfl dX5_saveInto_10 (fun σ15 H locs eσ15 h => ?_)
  rw [ens] at eσ15
  have hR1 : el_R σ15 0 cnt N O V := by rw [eσ15]; exact ⟨by rw [cv_F3, if_neg (by decide)]; exact hR.1, hR.2⟩
  refine lv_aload_n S.1 S.2.1 dX5_saveInto_13 rfl (lv_at hl 0 rfl) ?_
  refine cv_gf (ci := 5) (C := RX5) (T := TX5) (N := 7) (v := .ref (E.2.1 2)) S K h 0 rfl hinX5 rfl rfl 1 (by decide) hf_16 rfl rfl dX5_saveInto_14 ?_
  refine lv_aload_n S.1 S.2.1 dX5_saveInto_17 rfl (lv_at hl 0 rfl) ?_
  refine cv_gf (ci := 5) (C := RX5) (T := TX5) (N := 7) (v := .ref (E.2.1 10)) S K h 0 rfl hinX5 rfl rfl 2 (by decide) hf_23 rfl rfl dX5_saveInto_18 ?_
  refine cv_calli (ci := 3) (C := RX3) (T := TX3) (N := 2) S K h hl.1 rfl rfl rfl (c_writeFile l E σ15 0 (by decide) cnt N O V hR1 pw sa (sr + 1) rd hrd40 (by rw [eσ15]; exact hpw) (by rw [eσ15, cv_F3, if_pos rfl, if_neg (by decide)]; exact hsa) (by rw [eσ15, cv_F3, if_pos rfl, if_neg (by decide)]; exact hrd) (by rw [eσ15, cv_F3, if_pos rfl, if_pos rfl])) (cwV 1 S.2.2.2.2 gX5_saveInto_X3_writeFile rfl rfl rfl (by decide +kernel) ⟨Nat.le_of_ble_eq_true rfl, Nat.le_of_ble_eq_true rfl⟩) rfl rfl (Nat.le_of_ble_eq_true rfl) ⟨Nat.zero_le _, Nat.zero_le _⟩ dX5_saveInto_21 (fun rw_ σ16 H locs ⟨ew, hw1, hw2⟩ h => ?_)
  subst ew
  refine lv_istore_n (lv' := [(3, .int (nI (29 + co_sz O cnt))), (0, .ref (E.2.1 0)), (1, .int (nI sl)), (2, .int (nI q))]) S.1 S.2.1 dX5_saveInto_24 rfl hl (by decide) rfl (fun ls hl => ?_)
  refine lv_aload_n S.1 S.2.1 dX5_saveInto_25 rfl (lv_at hl 1 rfl) ?_
  refine cv_gf (ci := 5) (C := RX5) (T := TX5) (N := 7) (v := .ref (E.2.1 2)) S K h 0 rfl hinX5 rfl rfl 1 (by decide) hf_16 rfl rfl dX5_saveInto_26 ?_
  refine cv_gfN (ci := 3) (C := RX3) (T := TX3) (N := 2) (v := .ref (E.2.1 8)) S K h 2 rfl hinX3 rfl rfl 1 (by decide) (cv_nest_4 K) rfl rfl dX5_saveInto_29 ?_
  refine cv_gfN (ci := 0) (C := RX0) (T := TX0) (N := 1) (v := .ref (E.2.1 9)) S K h 8 rfl hinX0 rfl rfl 0 (by decide) (cv_nest_5 K) rfl rfl dX5_saveInto_32 ?_
  refine lv_iconst (v := 0) S.1 S.2.1 dX5_saveInto_35 (by decide) ?_
  refine lv_aload_n S.1 S.2.1 dX5_saveInto_36 rfl (lv_at hl 1 rfl) ?_
  refine cv_gf (ci := 5) (C := RX5) (T := TX5) (N := 7) (v := .ref (E.2.1 1)) S K h 0 rfl hinX5 rfl rfl 0 (by decide) hf_9 rfl rfl dX5_saveInto_37 ?_
  refine lv_iload_n S.1 S.2.1 dX5_saveInto_40 rfl (lv_at hl 2 rfl) ?_
  refine lv_sipush (v := 300) S.1 S.2.1 dX5_saveInto_41 (by decide) ?_
  refine lv_imul S.1 S.2.1 dX5_saveInto_44 ?_
  refine cv_rei (show (((nI sl)) * 300) = nI (300 * sl) from by rw [Nat.mul_comm 300 sl]; exact pk_mul sl 300) ?_
  refine lv_iload_n S.1 S.2.1 dX5_saveInto_45 rfl (lv_at hl 3 rfl) ?_
  refine lv_iload_n S.1 S.2.1 dX5_saveInto_46 rfl (lv_at hl 0 rfl) ?_
  refine va_mmin S.1 S.2.1 (S.2.2.1.trans hl.1.symm) S.2.2.2.1 (S.2.2.2.2 (.methodLink RX5 151 Lib.Math.min.name) (by decide +kernel)) (S.2.2.2.2 (.static Lib.Math.min.name) (by decide +kernel)) (S.2.2.2.2 (.initialized "java/lang/Math") (by decide +kernel)) (S.2.2.2.2 (.code Lib.Math.min.name Lib.Math.min.code 2 (some .int)) (by decide +kernel)) (Nat.le_of_ble_eq_true rfl) (Nat.le_of_ble_eq_true rfl) (Nat.zero_le _) (Nat.zero_le _) dX5_saveInto_47 ?_
  refine cv_rei (show (if ((nI (29 + co_sz O cnt))) < ((nI q)) then ((nI (29 + co_sz O cnt))) else ((nI q))) = nI (min q (29 + co_sz O cnt)) from cv_minq hq (by omega)) ?_
  refine cv_copy S K h hl.1 (S.2.2.2.2 (.methodLink RX5 157 arraycopyName) (by decide +kernel)) (S.2.2.2.2 (.native arraycopyName) (by decide +kernel)) (S.2.2.2.2 (.static arraycopyName) (by decide +kernel)) (S.2.2.2.2 (.initialized "java/lang/System") (by decide +kernel)) 9 1 rfl rfl (n0 := 300) rfl (n1 := 600) rfl 0 (300 * sl) (min q (29 + co_sz O cnt)) rfl rfl rfl (by omega) (by omega) (Nat.le_of_ble_eq_true rfl) (Nat.le_of_ble_eq_true rfl) dX5_saveInto_50 (fun σ17 H locs eσ17 h => ?_)
  have hb3 : by_R (σ17.1 1) (sdv dv (300 * sl) (fl pw sa (sr + 1) rd (co_l N O V cnt cnt)) (min q (29 + co_sz O cnt))) 600 := by
    intro j hj
    rw [eσ17, cv_I1, if_pos rfl]
    unfold va_cpy sdv
    by_cases hj2 : 300 * sl ≤ j ∧ j < 300 * sl + min q (29 + co_sz O cnt)
    · rw [if_pos hj2, if_pos hj2]
      have := hw2 (j - 300 * sl) (by rw [hFl]; omega)
      exact this
    · rw [if_neg hj2, if_neg hj2, hw1.1 1 (by decide), eσ15]
      exact hdv j hj
  have hsc : sc_F σ (cv_uF σ 10 4 (sr + 1)) := ⟨fun _ _ => rfl, rfl, fun k i _ h2 => by rw [cv_F3]; by_cases h1 : k = 10; (rw [if_pos h1, if_neg (by omega), h1]); (rw [if_neg h1]), fun _ _ _ => rfl⟩
  have hsc3 : (∀ k, k ∉ [1, 4, 5, 6, 7, 9] → σ17.1 k = σ.1 k) ∧ σ17.2 = (cv_uF σ 10 4 (sr + 1)).2 := by
    rw [eσ17]
    refine ⟨fun k hk => ?_, ?_⟩
    · rw [cv_I1, if_neg (fun z => hk (by rw [z]; decide)), hw1.1 k (fun z => hk (by simp at z ⊢; omega)), eσ15]; rfl
    · rw [cv_I2, hw1.2, eσ15]
  refine lv_aload_n S.1 S.2.1 dX5_saveInto_53 rfl (lv_at hl 1 rfl) ?_
  refine lv_iload_n S.1 S.2.1 dX5_saveInto_54 rfl (lv_at hl 3 rfl) ?_
  refine lv_iload_n S.1 S.2.1 dX5_saveInto_55 rfl (lv_at hl 0 rfl) ?_
  refine lv_icmp_lt (tgt := 63) S.1 S.2.1 dX5_saveInto_56 (by decide) (fun c1 => ?_) (fun c1 => ?_)
  · have hlt : q < 29 + co_sz O cnt := (nI_ltI (by omega) (by omega)).mp c1
    refine lv_iconst (v := 0) S.1 S.2.1 dX5_saveInto_63 (by decide) ?_
    refine cv_pf (ci := 5) (C := RX5) (T := TX5) (N := 7) (x := 0) S K h 0 rfl hinX5 rfl rfl 5 cv_pok_X5_5 hf_33 rfl rfl rfl (Nat.le_of_ble_eq_true rfl) rfl dX5_saveInto_64 (fun σ18 H locs eσ18 h => ?_)
    refine lv_aload_n S.1 S.2.1 dX5_saveInto_67 rfl (lv_at hl 1 rfl) ?_
    refine lv_aload_n S.1 S.2.1 dX5_saveInto_68 rfl (lv_at hl 1 rfl) ?_
    refine cv_gf (ci := 5) (C := RX5) (T := TX5) (N := 7) (v := .ref (E.2.1 10)) S K h 0 rfl hinX5 rfl rfl 2 (by decide) hf_23 rfl rfl dX5_saveInto_69 ?_
    refine cv_gfN (ci := 4) (C := RX4) (T := TX4) (N := 5) (v := .long (σ18.2.2.2 10 1)) S K h 10 rfl hinX4 rfl rfl 1 (by decide) (cv_nest_6 K) rfl rfl dX5_saveInto_72 ?_
    refine lv_topl (fun np enp => ?_)
    refine cv_pl (ci := 5) (C := RX5) (T := TX5) (N := 7) (x := np) S K h 0 rfl hinX5 rfl rfl 6 cv_pok_X5_6 hf_82 rfl (Nat.le_of_ble_eq_true rfl) rfl dX5_saveInto_75 (fun σ19 H locs eσ19 h => ?_)
    refine lv_aload_n S.1 S.2.1 dX5_saveInto_78 rfl (lv_at hl 1 rfl) ?_
    refine cv_gf (ci := 5) (C := RX5) (T := TX5) (N := 7) (v := .int (σ19.2.2.1 0 5)) S K h 0 rfl hinX5 rfl rfl 5 (by decide) hf_33 rfl rfl dX5_saveInto_79 ?_
    refine cv_rei (show (σ19.2.2.1 0 5) = 0 from by rw [eσ19, cv_G3]; exact (by rw [eσ18, cv_F3, if_pos rfl, if_pos rfl])) ?_
    have hnp : np = pw := by rw [enp, eσ18, cv_F4, hsc3.2]; exact hpw
    refine cv_zret S hr (by decide) hlk hsz h ⟨⟨?_, ?_, ?_, ?_⟩, ?_, ?_, ?_, Or.inr ⟨hlt, rfl, ?_⟩⟩ dX5_saveInto_82
    · intro k hk; rw [eσ19, eσ18]; exact hsc3.1 k hk
    · rw [eσ19, eσ18]; show σ17.2.1 = σ.2.1; rw [hsc3.2]; rfl
    · intro k i h1 h2; rw [eσ19, cv_G3, eσ18, cv_F3]; by_cases hk : k = 0; (rw [if_pos hk, if_neg (by omega), hsc3.2, hk]; rfl); (rw [if_neg hk, hsc3.2]; exact hsc.2.2.1 k i h1 h2)
    · intro k i h1; rw [eσ19, cv_G4]; by_cases hk : k = 0; (rw [if_pos hk, if_neg (by omega), eσ18, cv_F4, hsc3.2, hk]; rfl); (rw [if_neg hk, eσ18, cv_F4, hsc3.2]; rfl)
    · rw [eσ19, eσ18]; exact hb3
    · rw [eσ19, cv_G4, if_pos rfl, if_pos rfl, hnp]
    · rw [eσ19, cv_G3, eσ18, cv_F3, if_neg (by decide), hsc3.2, cv_F3, if_pos rfl, if_pos rfl]
    · rw [eσ19, cv_G3, eσ18, cv_F3, if_pos rfl, if_pos rfl]
  · have hge : 29 + co_sz O cnt ≤ q := Nat.not_lt.mp (fun z => c1 (nI_lt z (by omega)))
    refine lv_iconst (v := 1) S.1 S.2.1 dX5_saveInto_59 (by decide) ?_
    refine lv_goto (tgt := 64) S.1 S.2.1 dX5_saveInto_60 (by decide) ?_
    refine cv_pf (ci := 5) (C := RX5) (T := TX5) (N := 7) (x := 1) S K h 0 rfl hinX5 rfl rfl 5 cv_pok_X5_5 hf_33 rfl rfl rfl (Nat.le_of_ble_eq_true rfl) rfl dX5_saveInto_64 (fun σ20 H locs eσ20 h => ?_)
    refine lv_aload_n S.1 S.2.1 dX5_saveInto_67 rfl (lv_at hl 1 rfl) ?_
    refine lv_aload_n S.1 S.2.1 dX5_saveInto_68 rfl (lv_at hl 1 rfl) ?_
    refine cv_gf (ci := 5) (C := RX5) (T := TX5) (N := 7) (v := .ref (E.2.1 10)) S K h 0 rfl hinX5 rfl rfl 2 (by decide) hf_23 rfl rfl dX5_saveInto_69 ?_
    refine cv_gfN (ci := 4) (C := RX4) (T := TX4) (N := 5) (v := .long (σ20.2.2.2 10 1)) S K h 10 rfl hinX4 rfl rfl 1 (by decide) (cv_nest_6 K) rfl rfl dX5_saveInto_72 ?_
    refine lv_topl (fun np enp => ?_)
    refine cv_pl (ci := 5) (C := RX5) (T := TX5) (N := 7) (x := np) S K h 0 rfl hinX5 rfl rfl 6 cv_pok_X5_6 hf_82 rfl (Nat.le_of_ble_eq_true rfl) rfl dX5_saveInto_75 (fun σ21 H locs eσ21 h => ?_)
    refine lv_aload_n S.1 S.2.1 dX5_saveInto_78 rfl (lv_at hl 1 rfl) ?_
    refine cv_gf (ci := 5) (C := RX5) (T := TX5) (N := 7) (v := .int (σ21.2.2.1 0 5)) S K h 0 rfl hinX5 rfl rfl 5 (by decide) hf_33 rfl rfl dX5_saveInto_79 ?_
    refine cv_rei (show (σ21.2.2.1 0 5) = 1 from by rw [eσ21, cv_G3]; exact (by rw [eσ20, cv_F3, if_pos rfl, if_pos rfl])) ?_
    have hnp : np = pw := by rw [enp, eσ20, cv_F4, hsc3.2]; exact hpw
    refine cv_zret S hr (by decide) hlk hsz h ⟨⟨?_, ?_, ?_, ?_⟩, ?_, ?_, ?_, Or.inl ⟨hge, rfl, ?_⟩⟩ dX5_saveInto_82
    · intro k hk; rw [eσ21, eσ20]; exact hsc3.1 k hk
    · rw [eσ21, eσ20]; show σ17.2.1 = σ.2.1; rw [hsc3.2]; rfl
    · intro k i h1 h2; rw [eσ21, cv_G3, eσ20, cv_F3]; by_cases hk : k = 0; (rw [if_pos hk, if_neg (by omega), hsc3.2, hk]; rfl); (rw [if_neg hk, hsc3.2]; exact hsc.2.2.1 k i h1 h2)
    · intro k i h1; rw [eσ21, cv_G4]; by_cases hk : k = 0; (rw [if_pos hk, if_neg (by omega), eσ20, cv_F4, hsc3.2, hk]; rfl); (rw [if_neg hk, eσ20, cv_F4, hsc3.2]; rfl)
    · rw [eσ21, eσ20]; exact hb3
    · rw [eσ21, cv_G4, if_pos rfl, if_pos rfl, hnp]
    · rw [eσ21, cv_G3, eσ20, cv_F3, if_neg (by decide), hsc3.2, cv_F3, if_pos rfl, if_pos rfl]
    · rw [eσ21, cv_G3, eσ20, cv_F3, if_pos rfl, if_pos rfl]

set_option maxHeartbeats 4000000 in
set_option maxRecDepth 100000 in
theorem c_shut (l : Launch) (E : cv_E) (σ : cv_S) (op : Int32) (hop : op = 0 ∨ op = 1) (hop2 : σ.2.2.1 0 5 = op) : cv_Mi l E yX5_shut wsX5_shut (cv_R 1) [.ref (E.2.1 0)] σ (fun r τ => r = op ∧ τ = cv_uF σ 0 5 0) := by
  intro sz
  refine cv_in (ws := wsX5_shut) (cc := cX5_shut) (maxL := 2) (ret := (some .boolean)) (own := RX5) rfl (by decide) rfl (Nat.le_of_ble_eq_true rfl) ?_
  intro p e s m below meth c S K hr hlk hsz h ls hl
  have hl : lv_has ls 2 [(0, .ref (E.2.1 0))] := hl
  have hinX5 : ∀ w ∈ u_ws RX5 TX5 7, w ∈ wsX5_shut := by decide +kernel
  have hf_33 := S.2.2.2.2 (.fieldLink RX5 33 "CrashVault" "opened" "Z") (by decide +kernel)
  refine lv_aload_n S.1 S.2.1 dX5_shut_0 rfl (lv_at hl 0 rfl) ?_
  refine cv_gf (ci := 5) (C := RX5) (T := TX5) (N := 7) (v := .int (σ.2.2.1 0 5)) S K h 0 rfl hinX5 rfl rfl 5 (by decide) hf_33 rfl rfl dX5_shut_1 ?_
  refine cv_rei (show (σ.2.2.1 0 5) = op from hop2) ?_
  refine lv_istore_n (lv' := [(1, .int op), (0, .ref (E.2.1 0))]) S.1 S.2.1 dX5_shut_4 rfl hl (by decide) rfl (fun ls hl => ?_)
  refine lv_aload_n S.1 S.2.1 dX5_shut_5 rfl (lv_at hl 1 rfl) ?_
  refine lv_iconst (v := 0) S.1 S.2.1 dX5_shut_6 (by decide) ?_
  refine cv_pf (ci := 5) (C := RX5) (T := TX5) (N := 7) (x := 0) S K h 0 rfl hinX5 rfl rfl 5 cv_pok_X5_5 hf_33 rfl rfl rfl (Nat.le_of_ble_eq_true rfl) rfl dX5_shut_7 (fun σ22 H locs eσ22 h => ?_)
  refine lv_iload_n S.1 S.2.1 dX5_shut_10 rfl (lv_at hl 0 rfl) ?_
  exact cv_zret S hr hop hlk hsz h ⟨rfl, eσ22⟩ dX5_shut_11

set_option maxHeartbeats 4000000 in
set_option maxRecDepth 100000 in
theorem c_isOpen (l : Launch) (E : cv_E) (σ : cv_S) (op : Int32) (hop : op = 0 ∨ op = 1) (hop2 : σ.2.2.1 0 5 = op) : cv_Mi l E yX5_isOpen wsX5_isOpen (cv_R 1) [.ref (E.2.1 0)] σ (fun r τ => r = op ∧ τ = σ) := by
  intro sz
  refine cv_in (ws := wsX5_isOpen) (cc := cX5_isOpen) (maxL := 1) (ret := (some .boolean)) (own := RX5) rfl (by decide) rfl (Nat.le_of_ble_eq_true rfl) ?_
  intro p e s m below meth c S K hr hlk hsz h ls hl
  have hl : lv_has ls 1 [(0, .ref (E.2.1 0))] := hl
  have hinX5 : ∀ w ∈ u_ws RX5 TX5 7, w ∈ wsX5_isOpen := by decide +kernel
  have hf_33 := S.2.2.2.2 (.fieldLink RX5 33 "CrashVault" "opened" "Z") (by decide +kernel)
  refine lv_aload_n S.1 S.2.1 dX5_isOpen_0 rfl (lv_at hl 0 rfl) ?_
  refine cv_gf (ci := 5) (C := RX5) (T := TX5) (N := 7) (v := .int (σ.2.2.1 0 5)) S K h 0 rfl hinX5 rfl rfl 5 (by decide) hf_33 rfl rfl dX5_isOpen_1 ?_
  refine cv_rei (show (σ.2.2.1 0 5) = op from hop2) ?_
  exact cv_zret S hr hop hlk hsz h ⟨rfl, rfl⟩ dX5_isOpen_4
