/-! 44: the class: save, open, make -/
theorem el_0 {σ : cv_S} {N : Nat → Int64} {O : Nat → Nat} {V : Nat → Nat → Int64} (h : σ.2.2.1 13 3 = nI 0) : el_R σ 0 0 N O V := ⟨h, by decide, fun i hi => absurd hi (by omega)⟩
theorem scM01 {σ : cv_S} {dv : Nat → Nat} {pw : Int64} {sa sr : Int32} {rd cnt : Nat} {N : Nat → Int64} {O : Nat → Nat} {V : Nat → Nat → Int64} {a q : Nat} {r : Int32} {τ : cv_S} (h : scM σ dv pw sa sr rd cnt N O V a q r τ) : r = 0 ∨ r = 1 := h.2.2.2.2.elim (fun z => Or.inr z.2.1) (fun z => Or.inl z.2.1)
/-- what open does, over the class, with a good slot -/
def ocG (σ : cv_S) (bv : Nat → Nat) (pw : Int64) (r : Int32) (τ : cv_S) : Prop := r = nI (nv bv 2 4) ∧ gV τ 0 bv pw ∧ τ.2.2.2 0 6 = pw ∧ τ.2.2.1 0 5 = 1 ∧ τ.1 1 = σ.1 1 ∧ cl_F σ τ

set_option maxHeartbeats 4000000 in
set_option maxRecDepth 100000 in
theorem c_save (l : Launch) (hst : l.stackTraces = false) (E : cv_E) (σ : cv_S) (op : Int32) (hop : op = 0 ∨ op = 1) (ho : σ.2.2.1 0 5 = op) (dv : Nat → Nat) (hdv : by_R (σ.1 1) dv 600) (pw kn : Int64) (sa sr : Int32) (rd cnt : Nat) (N : Nat → Int64) (O : Nat → Nat) (V : Nat → Nat → Int64) (hV : op = 1 → rd ≤ 40 ∧ σ.2.2.2 10 1 = pw ∧ σ.2.2.2 0 6 = kn ∧ σ.2.2.1 10 2 = sa ∧ σ.2.2.1 10 3 = nI rd ∧ σ.2.2.1 10 4 = sr ∧ el_R σ 0 cnt N O V) (po : Int32) : cv_Xi l E yX5_save wsX5_save 7 2 [.ref (E.2.1 0), .int po] σ (fun r τ => op = 1 ∧ ∃ q, q < 2 ^ 31 ∧ po = nI q ∧ ∃ ρ a, ng_F σ ρ ∧ svA dv kn a ∧ scM ρ dv pw sa sr rd cnt N O V a q r τ) (fun nm τ => (nm = "java/lang/IllegalStateException" ∧ op = 0 ∧ τ = σ) ∨ (nm = "java/lang/IllegalArgumentException" ∧ op = 1 ∧ po < 0 ∧ τ = σ)) := by
  intro sz
  refine cvx_in (ws := wsX5_save) (cc := cX5_save) (maxL := 2) (ret := (some .boolean)) (own := RX5) rfl (by decide) rfl (Nat.le_of_ble_eq_true rfl) ?_
  intro p e s m below meth c S K X ht hr hlk hsz h ls hl
  have hl : lv_has ls 2 [(0, .ref (E.2.1 0)), (1, .int po)] := hl
  have hinX5 : ∀ w ∈ u_ws RX5 TX5 7, w ∈ wsX5_save := by decide +kernel
  have hf_82 := S.2.2.2.2 (.fieldLink RX5 82 "CrashVault" "savedPassword" "J") (by decide +kernel)
  refine lv_aload_n S.1 S.2.1 dX5_save_0 rfl (lv_at hl 0 rfl) ?_
  refine cvx_callv (ci := 5) (C := RX5) (T := TX5) (N := 7) S K X h hl.1 rfl rfl rfl (c_requireOpen l hst E σ op hop ho) (cwV 0 S.2.2.2.2 gX5_save_X5_requireOpen rfl rfl rfl (by decide +kernel) ⟨Nat.le_of_ble_eq_true rfl, Nat.le_of_ble_eq_true rfl⟩) rfl rfl (Nat.le_of_ble_eq_true rfl) (by decide) dX5_save_1 (fun nm ce q9 σx H locs hpx h hc1 hc2 hc3 => cvx_out ht hlk hsz h (Or.inl hpx) hc1 hc2 hc3 (by decide)) (fun σ1 H locs ⟨ho1, hs9⟩ h => ?_)
  rw [hs9] at h
  refine lv_iload_n S.1 S.2.1 dX5_save_4 rfl (lv_at hl 1 rfl) ?_
  refine cvx_callsv S K X h hl.1 (c_requirePower l hst E σ po) (va_cwS 1 S.2.2.2.2 gX5_save_X5_requirePower rfl rfl rfl (by decide +kernel) ⟨Nat.le_of_ble_eq_true rfl, Nat.le_of_ble_eq_true rfl⟩) rfl rfl (Nat.le_of_ble_eq_true rfl) (by decide) dX5_save_5 (fun nm ce q9 σx H locs hpx h hc1 hc2 hc3 => cvx_out ht hlk hsz h (Or.inr ⟨hpx.1, ho1, hpx.2⟩) hc1 hc2 hc3 (by decide)) (fun σ2 H locs ⟨hpo, hs9⟩ h => ?_)
  rw [hs9] at h
  obtain ⟨v1, v2, v3, v4, v5, v6, v7⟩ := hV ho1
  obtain ⟨q, hq, hpq⟩ := nI_of hpo
  subst hpq
  refine lv_aload_n S.1 S.2.1 dX5_save_8 rfl (lv_at hl 0 rfl) ?_
  refine lv_aload_n S.1 S.2.1 dX5_save_9 rfl (lv_at hl 0 rfl) ?_
  refine lv_aload_n S.1 S.2.1 dX5_save_10 rfl (lv_at hl 0 rfl) ?_
  refine cv_gf (ci := 5) (C := RX5) (T := TX5) (N := 7) (v := .long (σ.2.2.2 0 6)) S K h 0 rfl hinX5 rfl rfl 6 (by decide) hf_82 rfl rfl dX5_save_11 ?_
  refine cv_rel (show (σ.2.2.2 0 6) = kn from v3) ?_
  refine cv_calli (ci := 5) (C := RX5) (T := TX5) (N := 7) S K h hl.1 rfl rfl rfl (c_newestGood l E σ dv hdv kn) (cwV 1 S.2.2.2.2 gX5_save_X5_newestGood rfl rfl rfl (by decide +kernel) ⟨Nat.le_of_ble_eq_true rfl, Nat.le_of_ble_eq_true rfl⟩) rfl rfl (Nat.le_of_ble_eq_true rfl) (by decide) dX5_save_14 (fun rn σ3 H locs hn h => ?_)
  refine lv_if_ne (tgt := 24) S.1 S.2.1 dX5_save_17 (by decide) (fun c1 => ?_) (fun c1 => ?_)
  · refine lv_iconst (v := 0) S.1 S.2.1 dX5_save_24 (by decide) ?_
    refine lv_iload_n S.1 S.2.1 dX5_save_25 rfl (lv_at hl 1 rfl) ?_
    refine cv_calli (ci := 5) (C := RX5) (T := TX5) (N := 7) S K h hl.1 rfl rfl rfl (c_saveInto l E σ3 dv (by rw [hn.1.1 1 (by decide)]; exact hdv) pw sa sr rd cnt N O V v1 (by rw [hn.1.2.2.2 _ _ (by decide)]; exact v2) (by rw [hn.1.2.2.1 _ _ (by decide)]; exact v4) (by rw [hn.1.2.2.1 _ _ (by decide)]; exact v5) (by rw [hn.1.2.2.1 _ _ (by decide)]; exact v6) (el_ng hn.1 v7) 0 (by decide) q hq) (cwV 2 S.2.2.2.2 gX5_save_X5_saveInto rfl rfl rfl (by decide +kernel) ⟨Nat.le_of_ble_eq_true rfl, Nat.le_of_ble_eq_true rfl⟩) rfl rfl (Nat.le_of_ble_eq_true rfl) (by decide) dX5_save_26 (fun rs σ4 H locs hs h => ?_)
    exact cvx_zret S hr (scM01 hs) hlk hsz h ⟨ho1, q, hq, rfl, σ3, 300 * 0, hn.1, ⟨rn, hn.2.1, by rw [if_neg c1]⟩, hs⟩ (by decide) dX5_save_29
  · refine lv_iconst (v := 1) S.1 S.2.1 dX5_save_20 (by decide) ?_
    refine lv_goto (tgt := 25) S.1 S.2.1 dX5_save_21 (by decide) ?_
    refine lv_iload_n S.1 S.2.1 dX5_save_25 rfl (lv_at hl 1 rfl) ?_
    refine cv_calli (ci := 5) (C := RX5) (T := TX5) (N := 7) S K h hl.1 rfl rfl rfl (c_saveInto l E σ3 dv (by rw [hn.1.1 1 (by decide)]; exact hdv) pw sa sr rd cnt N O V v1 (by rw [hn.1.2.2.2 _ _ (by decide)]; exact v2) (by rw [hn.1.2.2.1 _ _ (by decide)]; exact v4) (by rw [hn.1.2.2.1 _ _ (by decide)]; exact v5) (by rw [hn.1.2.2.1 _ _ (by decide)]; exact v6) (el_ng hn.1 v7) 1 (by decide) q hq) (cwV 2 S.2.2.2.2 gX5_save_X5_saveInto rfl rfl rfl (by decide +kernel) ⟨Nat.le_of_ble_eq_true rfl, Nat.le_of_ble_eq_true rfl⟩) rfl rfl (Nat.le_of_ble_eq_true rfl) (by decide) dX5_save_26 (fun rs σ5 H locs hs h => ?_)
    exact cvx_zret S hr (scM01 hs) hlk hsz h ⟨ho1, q, hq, rfl, σ3, 300 * 1, hn.1, ⟨rn, hn.2.1, by rw [if_pos c1]⟩, hs⟩ (by decide) dX5_save_29

set_option maxHeartbeats 4000000 in
set_option maxRecDepth 100000 in
theorem c_open (l : Launch) (hst : l.stackTraces = false) (E : cv_E) (σ : cv_S) (dv : Nat → Nat) (hdv : by_R (σ.1 1) dv 600) (pw : Int64) : cv_Xi l E yX5_open wsX5_open 7 2 [.ref (E.2.1 0), .long pw] σ (fun r τ => (nwR 0 dv (fun q => dv (300 + q)) pw ∧ gd dv pw ∧ ocG σ dv pw r τ) ∨ (nwR 1 dv (fun q => dv (300 + q)) pw ∧ gd (fun q => dv (300 + q)) pw ∧ ocG σ (fun q => dv (300 + q)) pw r τ)) (fun nm τ => nm = "java/util/NoSuchElementException" ∧ ¬ gd dv pw ∧ ¬ gd (fun q => dv (300 + q)) pw ∧ ng_F σ τ) := by
  intro sz
  refine cvx_in (ws := wsX5_open) (cc := cX5_open) (maxL := 4) (ret := (some .int)) (own := RX5) rfl (by decide) rfl (Nat.le_of_ble_eq_true rfl) ?_
  intro p e s m below meth c S K X ht hr hlk hsz h ls hl
  have hl : lv_has ls 4 [(0, .ref (E.2.1 0)), (1, .long pw)] := hl
  have hinX4 : ∀ w ∈ u_ws RX4 TX4 5, w ∈ wsX5_open := by decide +kernel
  have hinX5 : ∀ w ∈ u_ws RX5 TX5 7, w ∈ wsX5_open := by decide +kernel
  have hf_23 := S.2.2.2.2 (.fieldLink RX5 23 "CrashVault" "vault" "LCrashVault$Vault;") (by decide +kernel)
  have hf_27 := S.2.2.2.2 (.fieldLink RX5 27 "CrashVault" "found0" "LCrashVault$Vault;") (by decide +kernel)
  have hf_30 := S.2.2.2.2 (.fieldLink RX5 30 "CrashVault" "found1" "LCrashVault$Vault;") (by decide +kernel)
  have hf_33 := S.2.2.2.2 (.fieldLink RX5 33 "CrashVault" "opened" "Z") (by decide +kernel)
  have hf_82 := S.2.2.2.2 (.fieldLink RX5 82 "CrashVault" "savedPassword" "J") (by decide +kernel)
  refine lv_aload_n S.1 S.2.1 dX5_open_0 rfl (lv_at hl 0 rfl) ?_
  refine lv_lload_n S.1 S.2.1 dX5_open_1 rfl (lv_at hl 1 rfl) ?_
  refine cv_calli (ci := 5) (C := RX5) (T := TX5) (N := 7) S K h hl.1 rfl rfl rfl (c_newestGood l E σ dv hdv pw) (cwV 1 S.2.2.2.2 gX5_open_X5_newestGood rfl rfl rfl (by decide +kernel) ⟨Nat.le_of_ble_eq_true rfl, Nat.le_of_ble_eq_true rfl⟩) rfl rfl (Nat.le_of_ble_eq_true rfl) (by decide) dX5_open_2 (fun rn σ6 H locs ⟨n1, n2, n3, n4⟩ h => ?_)
  refine lv_istore_n (lv' := [(3, .int rn), (0, .ref (E.2.1 0)), (1, .long pw)]) S.1 S.2.1 dX5_open_5 rfl hl (by decide) rfl (fun ls hl => ?_)
  rcases id n2 with ⟨e0, z0, _⟩ | ⟨e0, z0, _⟩ | ⟨e0, z0, z1⟩
  · subst e0
    have g := n3 z0
    refine lv_iload_n S.1 S.2.1 dX5_open_6 rfl (lv_at hl 0 rfl) ?_
    refine lv_iconst (v := (-1)) S.1 S.2.1 dX5_open_7 (by decide) ?_
    refine lv_icmp_ne (tgt := 19) S.1 S.2.1 dX5_open_8 (by decide) (fun c7 => ?_) (fun c7 => ?_)
    · refine lv_aload_n S.1 S.2.1 dX5_open_19 rfl (lv_at hl 1 rfl) ?_
      refine cv_gf (ci := 5) (C := RX5) (T := TX5) (N := 7) (v := .ref (E.2.1 10)) S K h 0 rfl hinX5 rfl rfl 2 (by decide) hf_23 rfl rfl dX5_open_20 ?_
      refine lv_iload_n S.1 S.2.1 dX5_open_23 rfl (lv_at hl 0 rfl) ?_
      refine lv_if_ne (tgt := 34) S.1 S.2.1 dX5_open_24 (by decide) (fun c8 => ?_) (fun c8 => ?_)
      · exact absurd c8 (by decide)
      · refine lv_aload_n S.1 S.2.1 dX5_open_27 rfl (lv_at hl 1 rfl) ?_
        refine cv_gf (ci := 5) (C := RX5) (T := TX5) (N := 7) (v := .ref (E.2.1 11)) S K h 0 rfl hinX5 rfl rfl 3 (by decide) hf_27 rfl rfl dX5_open_28 ?_
        refine lv_goto (tgt := 38) S.1 S.2.1 dX5_open_31 (by decide) ?_
        refine cv_callv (ci := 4) (C := RX4) (T := TX4) (N := 5) S K h hl.1 rfl rfl rfl (c_vaultCopy l E σ6 0 1 (by decide) (by decide) (by decide) _ _ _ _ g.2.2.2.2) (cwV 1 S.2.2.2.2 gX5_open_X4_copyFrom rfl rfl rfl (by decide +kernel) ⟨Nat.le_of_ble_eq_true rfl, Nat.le_of_ble_eq_true rfl⟩) rfl rfl (Nat.le_of_ble_eq_true rfl) (by decide) dX5_open_38 (fun σ9 H locs hc h => ?_)
        refine lv_aload_n S.1 S.2.1 dX5_open_41 rfl (lv_at hl 1 rfl) ?_
        refine lv_lload_n S.1 S.2.1 dX5_open_42 rfl (lv_at hl 2 rfl) ?_
        refine cv_pl (ci := 5) (C := RX5) (T := TX5) (N := 7) (x := pw) S K h 0 rfl hinX5 rfl rfl 6 cv_pok_X5_6 hf_82 rfl (Nat.le_of_ble_eq_true rfl) rfl dX5_open_43 (fun σ10 H locs eσ10 h => ?_)
        refine lv_aload_n S.1 S.2.1 dX5_open_46 rfl (lv_at hl 1 rfl) ?_
        refine lv_iconst (v := 1) S.1 S.2.1 dX5_open_47 (by decide) ?_
        refine cv_pf (ci := 5) (C := RX5) (T := TX5) (N := 7) (x := 1) S K h 0 rfl hinX5 rfl rfl 5 cv_pok_X5_5 hf_33 rfl rfl rfl (Nat.le_of_ble_eq_true rfl) rfl dX5_open_48 (fun σ11 H locs eσ11 h => ?_)
        refine lv_aload_n S.1 S.2.1 dX5_open_51 rfl (lv_at hl 1 rfl) ?_
        refine cv_gf (ci := 5) (C := RX5) (T := TX5) (N := 7) (v := .ref (E.2.1 10)) S K h 0 rfl hinX5 rfl rfl 2 (by decide) hf_23 rfl rfl dX5_open_52 ?_
        refine cv_gfN (ci := 4) (C := RX4) (T := TX4) (N := 5) (v := .int (σ11.2.2.1 10 4)) S K h 10 rfl hinX4 rfl rfl 4 (by decide) (cv_nest_9 K) rfl rfl dX5_open_55 ?_
        have hr4 : σ11.2.2.1 10 4 = nI (nv dv 2 4) := by rw [eσ11, cv_F3, if_neg (by decide), eσ10, cv_G3]; exact hc.2.2.2.2.2.trans g.2.2.2.1
        refine cv_rei (show (σ11.2.2.1 10 4) = nI (nv dv 2 4) from hr4) ?_
        have hgv : gV σ11 0 dv pw := by
          refine ⟨?_, ?_, ?_, hr4, ?_, hc.2.1.2.1, ?_⟩
          · rw [eσ11, cv_F4, eσ10, cv_G4, if_neg (by decide)]; exact hc.2.2.1.trans g.1
          · rw [eσ11, cv_F3, if_neg (by decide), eσ10, cv_G3]; exact hc.2.2.2.1.trans g.2.1
          · rw [eσ11, cv_F3, if_neg (by decide), eσ10, cv_G3]; exact hc.2.2.2.2.1.trans g.2.2.1
          · rw [eσ11, cv_F3, if_neg (by decide), eσ10, cv_G3]; exact hc.2.1.1
          · rw [eσ11, eσ10]; exact hc.2.1.2.2
        refine cvx_iret S hr hlk hsz h (Or.inl ⟨n2, z0, rfl, hgv, ?_, ?_, ?_, ?_⟩) (by decide) dX5_open_58
        · rw [eσ11, cv_F4, eσ10, cv_G4, if_pos rfl, if_pos rfl]
        · rw [eσ11, cv_F3, if_pos rfl, if_pos rfl]
        · rw [eσ11, eσ10]; exact (hc.1.1 1 (by decide) (by decide)).trans (n1.1 1 (by decide))
        · rw [eσ11, eσ10]; exact (((cl_ng n1).trans (cl_ff (by decide) hc.1)).trans (cl_uG (by decide))).trans (cl_uF (by decide))
    · exact absurd c7 (by decide)
  · subst e0
    have g := n4 z0
    refine lv_iload_n S.1 S.2.1 dX5_open_6 rfl (lv_at hl 0 rfl) ?_
    refine lv_iconst (v := (-1)) S.1 S.2.1 dX5_open_7 (by decide) ?_
    refine lv_icmp_ne (tgt := 19) S.1 S.2.1 dX5_open_8 (by decide) (fun c12 => ?_) (fun c12 => ?_)
    · refine lv_aload_n S.1 S.2.1 dX5_open_19 rfl (lv_at hl 1 rfl) ?_
      refine cv_gf (ci := 5) (C := RX5) (T := TX5) (N := 7) (v := .ref (E.2.1 10)) S K h 0 rfl hinX5 rfl rfl 2 (by decide) hf_23 rfl rfl dX5_open_20 ?_
      refine lv_iload_n S.1 S.2.1 dX5_open_23 rfl (lv_at hl 0 rfl) ?_
      refine lv_if_ne (tgt := 34) S.1 S.2.1 dX5_open_24 (by decide) (fun c13 => ?_) (fun c13 => ?_)
      · refine lv_aload_n S.1 S.2.1 dX5_open_34 rfl (lv_at hl 1 rfl) ?_
        refine cv_gf (ci := 5) (C := RX5) (T := TX5) (N := 7) (v := .ref (E.2.1 12)) S K h 0 rfl hinX5 rfl rfl 4 (by decide) hf_30 rfl rfl dX5_open_35 ?_
        refine cv_callv (ci := 4) (C := RX4) (T := TX4) (N := 5) S K h hl.1 rfl rfl rfl (c_vaultCopy l E σ6 0 2 (by decide) (by decide) (by decide) _ _ _ _ g.2.2.2.2) (cwV 1 S.2.2.2.2 gX5_open_X4_copyFrom rfl rfl rfl (by decide +kernel) ⟨Nat.le_of_ble_eq_true rfl, Nat.le_of_ble_eq_true rfl⟩) rfl rfl (Nat.le_of_ble_eq_true rfl) (by decide) dX5_open_38 (fun σ14 H locs hc h => ?_)
        refine lv_aload_n S.1 S.2.1 dX5_open_41 rfl (lv_at hl 1 rfl) ?_
        refine lv_lload_n S.1 S.2.1 dX5_open_42 rfl (lv_at hl 2 rfl) ?_
        refine cv_pl (ci := 5) (C := RX5) (T := TX5) (N := 7) (x := pw) S K h 0 rfl hinX5 rfl rfl 6 cv_pok_X5_6 hf_82 rfl (Nat.le_of_ble_eq_true rfl) rfl dX5_open_43 (fun σ15 H locs eσ15 h => ?_)
        refine lv_aload_n S.1 S.2.1 dX5_open_46 rfl (lv_at hl 1 rfl) ?_
        refine lv_iconst (v := 1) S.1 S.2.1 dX5_open_47 (by decide) ?_
        refine cv_pf (ci := 5) (C := RX5) (T := TX5) (N := 7) (x := 1) S K h 0 rfl hinX5 rfl rfl 5 cv_pok_X5_5 hf_33 rfl rfl rfl (Nat.le_of_ble_eq_true rfl) rfl dX5_open_48 (fun σ16 H locs eσ16 h => ?_)
        refine lv_aload_n S.1 S.2.1 dX5_open_51 rfl (lv_at hl 1 rfl) ?_
        refine cv_gf (ci := 5) (C := RX5) (T := TX5) (N := 7) (v := .ref (E.2.1 10)) S K h 0 rfl hinX5 rfl rfl 2 (by decide) hf_23 rfl rfl dX5_open_52 ?_
        refine cv_gfN (ci := 4) (C := RX4) (T := TX4) (N := 5) (v := .int (σ16.2.2.1 10 4)) S K h 10 rfl hinX4 rfl rfl 4 (by decide) (cv_nest_9 K) rfl rfl dX5_open_55 ?_
        have hr4 : σ16.2.2.1 10 4 = nI (nv (fun q => dv (300 + q)) 2 4) := by rw [eσ16, cv_F3, if_neg (by decide), eσ15, cv_G3]; exact hc.2.2.2.2.2.trans g.2.2.2.1
        refine cv_rei (show (σ16.2.2.1 10 4) = nI (nv (fun q => dv (300 + q)) 2 4) from hr4) ?_
        have hgv : gV σ16 0 (fun q => dv (300 + q)) pw := by
          refine ⟨?_, ?_, ?_, hr4, ?_, hc.2.1.2.1, ?_⟩
          · rw [eσ16, cv_F4, eσ15, cv_G4, if_neg (by decide)]; exact hc.2.2.1.trans g.1
          · rw [eσ16, cv_F3, if_neg (by decide), eσ15, cv_G3]; exact hc.2.2.2.1.trans g.2.1
          · rw [eσ16, cv_F3, if_neg (by decide), eσ15, cv_G3]; exact hc.2.2.2.2.1.trans g.2.2.1
          · rw [eσ16, cv_F3, if_neg (by decide), eσ15, cv_G3]; exact hc.2.1.1
          · rw [eσ16, eσ15]; exact hc.2.1.2.2
        refine cvx_iret S hr hlk hsz h (Or.inr ⟨n2, z0, rfl, hgv, ?_, ?_, ?_, ?_⟩) (by decide) dX5_open_58
        · rw [eσ16, cv_F4, eσ15, cv_G4, if_pos rfl, if_pos rfl]
        · rw [eσ16, cv_F3, if_pos rfl, if_pos rfl]
        · rw [eσ16, eσ15]; exact (hc.1.1 1 (by decide) (by decide)).trans (n1.1 1 (by decide))
        · rw [eσ16, eσ15]; exact (((cl_ng n1).trans (cl_ff (by decide) hc.1)).trans (cl_uG (by decide))).trans (cl_uF (by decide))
      · exact absurd c13 (by decide)
    · exact absurd c12 (by decide)
  · subst e0
    refine lv_iload_n S.1 S.2.1 dX5_open_6 rfl (lv_at hl 0 rfl) ?_
    refine lv_iconst (v := (-1)) S.1 S.2.1 dX5_open_7 (by decide) ?_
    refine lv_icmp_ne (tgt := 19) S.1 S.2.1 dX5_open_8 (by decide) (fun c3 => ?_) (fun c3 => ?_)
    · exact absurd rfl c3
    · exact cvx_throw (cls := "java/util/NoSuchElementException") (ik := 75) (ic := 77) hst S X ht hlk hsz h hl.1 (by decide +kernel) (by decide +kernel) (by decide +kernel) (by decide +kernel) nt_NoSuchElementException_77 gt_NoSuchElementException_75_77 dX5_open_11 dX5_open_14 dX5_open_15 dX5_open_18 (by decide) (by decide) (by decide) (⟨rfl, z0, z1, n1⟩) (by decide)

set_option maxHeartbeats 4000000 in
set_option maxRecDepth 100000 in
theorem c_make (l : Launch) (hst : l.stackTraces = false) (E : cv_E) (σ : cv_S) (pw : Int64) (sa rr po : Int32) : cv_Xi l E yX5_make wsX5_make 7 2 [.ref (E.2.1 0), .long pw, .int sa, .int rr, .int po] σ (fun r τ => ∃ rd q ρ, 1 ≤ rd ∧ rd ≤ 40 ∧ rr = nI rd ∧ q < 2 ^ 31 ∧ po = nI q ∧ cl_F σ ρ ∧ ρ.2.2.2 10 1 = pw ∧ ρ.2.2.1 10 2 = sa ∧ ρ.2.2.1 10 3 = nI rd ∧ el_R ρ 0 0 (fun _ => 0) (fun _ => 0) (fun _ _ => 0) ∧ scM ρ (fun _ => 0) pw sa 0 rd 0 (fun _ => 0) (fun _ => 0) (fun _ _ => 0) 0 q r τ) (fun nm τ => nm = "java/lang/IllegalArgumentException" ∧ ¬ (okR rr ∧ ¬ po < 0) ∧ τ = σ) := by
  intro sz
  refine cvx_in (ws := wsX5_make) (cc := cX5_make) (maxL := 7) (ret := (some .boolean)) (own := RX5) rfl (by decide) rfl (Nat.le_of_ble_eq_true rfl) ?_
  intro p e s m below meth c S K X ht hr hlk hsz h ls hl
  have hl : lv_has ls 7 [(0, .ref (E.2.1 0)), (1, .long pw), (3, .int sa), (4, .int rr), (5, .int po)] := hl
  have hinX4 : ∀ w ∈ u_ws RX4 TX4 5, w ∈ wsX5_make := by decide +kernel
  have hinX5 : ∀ w ∈ u_ws RX5 TX5 7, w ∈ wsX5_make := by decide +kernel
  have hf_23 := S.2.2.2.2 (.fieldLink RX5 23 "CrashVault" "vault" "LCrashVault$Vault;") (by decide +kernel)
  have hf_9 := S.2.2.2.2 (.fieldLink RX5 9 "CrashVault" "diskBytes" "[I") (by decide +kernel)
  refine lv_iload S.1 S.2.1 dX5_make_0 (lv_at hl 3 rfl) ?_
  refine cvx_callsv S K X h hl.1 (c_requireRounds l hst E σ rr) (va_cwS 1 S.2.2.2.2 gX5_make_X5_requireRounds rfl rfl rfl (by decide +kernel) ⟨Nat.le_of_ble_eq_true rfl, Nat.le_of_ble_eq_true rfl⟩) rfl rfl (Nat.le_of_ble_eq_true rfl) (by decide) dX5_make_2 (fun nm ce q9 σx H locs hpx h hc1 hc2 hc3 => cvx_out ht hlk hsz h (⟨hpx.1, fun z => hpx.2.1 z.1, hpx.2.2⟩) hc1 hc2 hc3 (by decide)) (fun σ17 H locs ⟨hrr, hs9⟩ h => ?_)
  rw [hs9] at h
  refine lv_iload S.1 S.2.1 dX5_make_5 (lv_at hl 4 rfl) ?_
  refine cvx_callsv S K X h hl.1 (c_requirePower l hst E σ po) (va_cwS 1 S.2.2.2.2 gX5_make_X5_requirePower rfl rfl rfl (by decide +kernel) ⟨Nat.le_of_ble_eq_true rfl, Nat.le_of_ble_eq_true rfl⟩) rfl rfl (Nat.le_of_ble_eq_true rfl) (by decide) dX5_make_7 (fun nm ce q9 σx H locs hpx h hc1 hc2 hc3 => cvx_out ht hlk hsz h (⟨hpx.1, fun z => z.2 hpx.2.1, hpx.2.2⟩) hc1 hc2 hc3 (by decide)) (fun σ18 H locs ⟨hpo, hs9⟩ h => ?_)
  rw [hs9] at h
  obtain ⟨rd, k1, k2, hrd⟩ := hrr
  subst hrd
  obtain ⟨q, hq, hpq⟩ := nI_of hpo
  subst hpq
  refine lv_iconst (v := 0) S.1 S.2.1 dX5_make_10 (by decide) ?_
  refine lv_istore (lv' := [(6, .int 0), (0, .ref (E.2.1 0)), (1, .long pw), (3, .int sa), (4, .int (nI rd)), (5, .int (nI q))]) S.1 S.2.1 dX5_make_11 hl (by decide) rfl (fun ls hl => ?_)
  refine cv_loop (α := Unit) (nL := 7) 600 (fun i a τ => (∀ k, k ≠ 1 → τ.1 k = σ.1 k) ∧ τ.2 = σ.2 ∧ ∀ j, j < i → τ.1 1 j = nI 0) (fun i a => [(6, .int (nI i)), (0, .ref (E.2.1 0)), (1, .long pw), (3, .int sa), (4, .int (nI rd)), (5, .int (nI q))]) ?_ ?_ 0 () σ _ _ _ (by omega) (⟨fun _ _ => rfl, rfl, fun j hj => absurd hj (by omega)⟩) h hl
  · intro i a τ H locs ls hi hI h hl ih
    have hl : lv_has ls 7 [(6, .int (nI i)), (0, .ref (E.2.1 0)), (1, .long pw), (3, .int sa), (4, .int (nI rd)), (5, .int (nI q))] := hl
    obtain ⟨g1, g2, g3⟩ := hI
    refine lv_iload S.1 S.2.1 dX5_make_13 (lv_at hl 0 rfl) ?_
    refine lv_sipush (v := 600) S.1 S.2.1 dX5_make_15 (by decide) ?_
    refine lv_icmp_ge (tgt := 35) S.1 S.2.1 dX5_make_18 (by decide) (fun c1 => ?_) (fun c1 => ?_)
    · exact absurd c1 (nI_ge hi (by decide))
    · refine lv_aload_n S.1 S.2.1 dX5_make_21 rfl (lv_at hl 1 rfl) ?_
      refine cv_gf (ci := 5) (C := RX5) (T := TX5) (N := 7) (v := .ref (E.2.1 1)) S K h 0 rfl hinX5 rfl rfl 0 (by decide) hf_9 rfl rfl dX5_make_22 ?_
      refine lv_iload S.1 S.2.1 dX5_make_25 (lv_at hl 0 rfl) ?_
      refine lv_iconst (v := 0) S.1 S.2.1 dX5_make_27 (by decide) ?_
      refine cv_iast (x := 0) S K h 1 rfl (n := 600) rfl i rfl hi dX5_make_28 (fun σ19 H locs eσ19 h => ?_)
      obtain ⟨z5, ez5⟩ : ∃ y : Int32, y = ((nI i)) + 1 := ⟨_, rfl⟩
      refine lv_iinc (v := z5) (lv' := [(6, .int z5), (0, .ref (E.2.1 0)), (1, .long pw), (3, .int sa), (4, .int (nI rd)), (5, .int (nI q))]) S.1 S.2.1 dX5_make_29 hl (k := 0) rfl (by rw [ez5]; rfl) (by decide) rfl (fun ls hl => ?_)
      refine lv_goto (tgt := 13) S.1 S.2.1 dX5_make_32 (by decide) ?_
      rw [ez5, nI_1] at hl
      refine ih () σ19 H locs ls ?_ h hl
      rw [eσ19]
      refine ⟨fun k hk => by rw [cv_I1, if_neg hk]; exact g1 k hk, g2, fun j hj => ?_⟩
      rw [cv_I1, if_pos rfl]
      by_cases hji : j = i
      · rw [hji, pk_us]; rfl
      · rw [pk_un hji]; exact g3 j (by omega)
  · intro a τ H locs ls hI h hl
    have hl : lv_has ls 7 [(6, .int (nI 600)), (0, .ref (E.2.1 0)), (1, .long pw), (3, .int sa), (4, .int (nI rd)), (5, .int (nI q))] := hl
    obtain ⟨g1, g2, g3⟩ := hI
    refine lv_iload S.1 S.2.1 dX5_make_13 (lv_at hl 0 rfl) ?_
    refine lv_sipush (v := 600) S.1 S.2.1 dX5_make_15 (by decide) ?_
    refine lv_icmp_ge (tgt := 35) S.1 S.2.1 dX5_make_18 (by decide) (fun c1 => ?_) (fun c1 => ?_)
    · refine lv_aload_n S.1 S.2.1 dX5_make_35 rfl (lv_at hl 1 rfl) ?_
      refine cv_gf (ci := 5) (C := RX5) (T := TX5) (N := 7) (v := .ref (E.2.1 10)) S K h 0 rfl hinX5 rfl rfl 2 (by decide) hf_23 rfl rfl dX5_make_36 ?_
      refine lv_lload_n S.1 S.2.1 dX5_make_39 rfl (lv_at hl 2 rfl) ?_
      refine cv_plN (ci := 4) (C := RX4) (T := TX4) (N := 5) (x := pw) S K h 10 rfl hinX4 rfl rfl 1 cv_pok_X4_1 (cv_nest_6 K) rfl (Nat.le_of_ble_eq_true rfl) rfl dX5_make_40 (fun σ20 H locs eσ20 h => ?_)
      refine lv_aload_n S.1 S.2.1 dX5_make_43 rfl (lv_at hl 1 rfl) ?_
      refine cv_gf (ci := 5) (C := RX5) (T := TX5) (N := 7) (v := .ref (E.2.1 10)) S K h 0 rfl hinX5 rfl rfl 2 (by decide) hf_23 rfl rfl dX5_make_44 ?_
      refine lv_iload_n S.1 S.2.1 dX5_make_47 rfl (lv_at hl 3 rfl) ?_
      refine cv_pfN (ci := 4) (C := RX4) (T := TX4) (N := 5) (x := sa) S K h 10 rfl hinX4 rfl rfl 2 cv_pok_X4_2 (cv_nest_7 K) rfl rfl rfl (Nat.le_of_ble_eq_true rfl) rfl dX5_make_48 (fun σ21 H locs eσ21 h => ?_)
      refine lv_aload_n S.1 S.2.1 dX5_make_51 rfl (lv_at hl 1 rfl) ?_
      refine cv_gf (ci := 5) (C := RX5) (T := TX5) (N := 7) (v := .ref (E.2.1 10)) S K h 0 rfl hinX5 rfl rfl 2 (by decide) hf_23 rfl rfl dX5_make_52 ?_
      refine lv_iload S.1 S.2.1 dX5_make_55 (lv_at hl 4 rfl) ?_
      refine cv_pfN (ci := 4) (C := RX4) (T := TX4) (N := 5) (x := (nI rd)) S K h 10 rfl hinX4 rfl rfl 3 cv_pok_X4_3 (cv_nest_8 K) rfl rfl rfl (Nat.le_of_ble_eq_true rfl) rfl dX5_make_57 (fun σ22 H locs eσ22 h => ?_)
      refine lv_aload_n S.1 S.2.1 dX5_make_60 rfl (lv_at hl 1 rfl) ?_
      refine cv_gf (ci := 5) (C := RX5) (T := TX5) (N := 7) (v := .ref (E.2.1 10)) S K h 0 rfl hinX5 rfl rfl 2 (by decide) hf_23 rfl rfl dX5_make_61 ?_
      refine lv_iconst (v := 0) S.1 S.2.1 dX5_make_64 (by decide) ?_
      refine cv_pfN (ci := 4) (C := RX4) (T := TX4) (N := 5) (x := 0) S K h 10 rfl hinX4 rfl rfl 4 cv_pok_X4_4 (cv_nest_9 K) rfl rfl rfl (Nat.le_of_ble_eq_true rfl) rfl dX5_make_65 (fun σ23 H locs eσ23 h => ?_)
      refine lv_aload_n S.1 S.2.1 dX5_make_68 rfl (lv_at hl 1 rfl) ?_
      refine cv_gf (ci := 5) (C := RX5) (T := TX5) (N := 7) (v := .ref (E.2.1 10)) S K h 0 rfl hinX5 rfl rfl 2 (by decide) hf_23 rfl rfl dX5_make_69 ?_
      refine cv_gfN (ci := 4) (C := RX4) (T := TX4) (N := 5) (v := .ref (E.2.1 13)) S K h 10 rfl hinX4 rfl rfl 0 (by decide) (cv_nest_10 K) rfl rfl dX5_make_72 ?_
      refine cv_callv (ci := 2) (C := RX2) (T := TX2) (N := 4) S K h hl.1 rfl rfl rfl (c_clearAll l E σ23 0 (by decide)) (cwV 0 S.2.2.2.2 gX5_make_X2_clearAll rfl rfl rfl (by decide +kernel) ⟨Nat.le_of_ble_eq_true rfl, Nat.le_of_ble_eq_true rfl⟩) rfl rfl (Nat.le_of_ble_eq_true rfl) (by decide) dX5_make_75 (fun σ24 H locs hcl h => ?_)
      have f5 : cl_F σ σ24 ∧ σ24.2.2.2 10 1 = pw ∧ σ24.2.2.1 10 2 = sa ∧ σ24.2.2.1 10 3 = nI rd ∧ σ24.2.2.1 10 4 = 0 ∧ σ24.2.2.1 13 3 = nI 0 ∧ σ24.1 1 = τ.1 1 := by
        rw [hcl, eσ23, eσ22, eσ21, eσ20]
        refine ⟨?_, ?_, ?_, ?_, ?_, ?_, rfl⟩
        · refine ((((cl_F.trans ?_ (cl_uG (by decide))).trans (cl_uF (by decide))).trans (cl_uF (by decide))).trans (cl_uF (by decide))).trans (cl_uF (by decide))
          exact fun k hk => ⟨g1 k (by omega), by rw [g2], by rw [g2], by rw [g2]⟩
        all_goals simp [cv_F3, cv_F4, cv_G4, cv_G3]
        all_goals rfl
      refine lv_aload_n S.1 S.2.1 dX5_make_78 rfl (lv_at hl 1 rfl) ?_
      refine lv_iconst (v := 0) S.1 S.2.1 dX5_make_79 (by decide) ?_
      refine lv_iload S.1 S.2.1 dX5_make_80 (lv_at hl 5 rfl) ?_
      refine cv_calli (ci := 5) (C := RX5) (T := TX5) (N := 7) S K h hl.1 rfl rfl rfl (c_saveInto l E σ24 (fun _ => 0) (fun j hj => by rw [f5.2.2.2.2.2.2, g3 j hj]; exact ⟨rfl, show 0 < 256 by decide⟩) pw sa 0 rd 0 (fun _ => 0) (fun _ => 0) (fun _ _ => 0) k2 f5.2.1 f5.2.2.1 f5.2.2.2.1 f5.2.2.2.2.1 (el_0 f5.2.2.2.2.2.1) 0 (by decide) q hq) (cwV 2 S.2.2.2.2 gX5_make_X5_saveInto rfl rfl rfl (by decide +kernel) ⟨Nat.le_of_ble_eq_true rfl, Nat.le_of_ble_eq_true rfl⟩) rfl rfl (Nat.le_of_ble_eq_true rfl) (by decide) dX5_make_82 (fun rs σ25 H locs hs h => ?_)
      exact cvx_zret S hr (scM01 hs) hlk hsz h ⟨rd, q, σ24, k1, k2, rfl, hq, rfl, f5.1, f5.2.1, f5.2.2.1, f5.2.2.2.1, el_0 f5.2.2.2.2.2.1, hs⟩ (by decide) dX5_make_85
    · exact absurd (Int32.le_refl _) c1
