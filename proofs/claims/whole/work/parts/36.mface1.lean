/-! 36: the reference: what only looks -/
set_option maxHeartbeats 4000000 in
set_option maxRecDepth 100000 in
theorem m_thrown (l : Launch) (E : cv_E) (σ : cv_S) : cv_Mi l E yX6_thrown wsX6_thrown (cv_R 1) [.ref (E.2.1 49)] σ (fun r τ => r = σ.2.2.1 49 0 ∧ τ = σ) := by
  intro sz
  refine cv_in (ws := wsX6_thrown) (cc := cX6_thrown) (maxL := 1) (ret := (some .int)) (own := RX6) rfl (by decide) rfl (Nat.le_of_ble_eq_true rfl) ?_
  intro p e s m below meth c S K hr hlk hsz h ls hl
  have hl : lv_has ls 1 [(0, .ref (E.2.1 49))] := hl
  have hinX6 : ∀ w ∈ u_ws RX6 TX6 18, w ∈ wsX6_thrown := by decide +kernel
  have hf_38 := S.2.2.2.2 (.fieldLink RX6 38 "CrashVaultModel" "thrown" "I") (by decide +kernel)
  refine lv_aload_n S.1 S.2.1 dX6_thrown_0 rfl (lv_at hl 0 rfl) ?_
  refine cv_gf (ci := 6) (C := RX6) (T := TX6) (N := 18) (v := .int (σ.2.2.1 49 0)) S K h 49 rfl hinX6 rfl rfl 0 (by decide) hf_38 rfl rfl dX6_thrown_1 ?_
  exact cv_iret S hr hlk hsz h ⟨rfl, rfl⟩ dX6_thrown_4

set_option maxHeartbeats 4000000 in
set_option maxRecDepth 100000 in
theorem m_shut (l : Launch) (E : cv_E) (σ : cv_S) (hop : σ.2.2.1 49 2 = 0 ∨ σ.2.2.1 49 2 = 1) : cv_Mi l E yX6_shut wsX6_shut (cv_R 1) [.ref (E.2.1 49)] σ (fun r τ => r = σ.2.2.1 49 2 ∧ τ = cv_uF (cv_uF σ 49 0 0) 49 2 0) := by
  intro sz
  refine cv_in (ws := wsX6_shut) (cc := cX6_shut) (maxL := 2) (ret := (some .boolean)) (own := RX6) rfl (by decide) rfl (Nat.le_of_ble_eq_true rfl) ?_
  intro p e s m below meth c S K hr hlk hsz h ls hl
  have hl : lv_has ls 2 [(0, .ref (E.2.1 49))] := hl
  have hinX6 : ∀ w ∈ u_ws RX6 TX6 18, w ∈ wsX6_shut := by decide +kernel
  have hf_147 := S.2.2.2.2 (.fieldLink RX6 147 "CrashVaultModel" "open" "Z") (by decide +kernel)
  have hf_38 := S.2.2.2.2 (.fieldLink RX6 38 "CrashVaultModel" "thrown" "I") (by decide +kernel)
  rcases hop with ho | ho
  · refine lv_aload_n S.1 S.2.1 dX6_shut_0 rfl (lv_at hl 0 rfl) ?_
    refine lv_iconst (v := 0) S.1 S.2.1 dX6_shut_1 (by decide) ?_
    refine cv_pf (ci := 6) (C := RX6) (T := TX6) (N := 18) (x := 0) S K h 49 rfl hinX6 rfl rfl 0 cv_pok_X6_0 hf_38 rfl rfl rfl (Nat.le_of_ble_eq_true rfl) rfl dX6_shut_2 (fun σ14 H locs eσ14 h => ?_)
    refine lv_aload_n S.1 S.2.1 dX6_shut_5 rfl (lv_at hl 0 rfl) ?_
    refine cv_gf (ci := 6) (C := RX6) (T := TX6) (N := 18) (v := .int (σ14.2.2.1 49 2)) S K h 49 rfl hinX6 rfl rfl 2 (by decide) hf_147 rfl rfl dX6_shut_6 ?_
    refine cv_rei (show (σ14.2.2.1 49 2) = 0 from by rw [eσ14, cv_F3, if_pos rfl, if_neg (by decide)]; exact ho) ?_
    refine lv_istore_n (lv' := [(1, .int 0), (0, .ref (E.2.1 49))]) S.1 S.2.1 dX6_shut_9 rfl hl (by decide) rfl (fun ls hl => ?_)
    refine lv_aload_n S.1 S.2.1 dX6_shut_10 rfl (lv_at hl 1 rfl) ?_
    refine lv_iconst (v := 0) S.1 S.2.1 dX6_shut_11 (by decide) ?_
    refine cv_pf (ci := 6) (C := RX6) (T := TX6) (N := 18) (x := 0) S K h 49 rfl hinX6 rfl rfl 2 cv_pok_X6_2 hf_147 rfl rfl rfl (Nat.le_of_ble_eq_true rfl) rfl dX6_shut_12 (fun σ15 H locs eσ15 h => ?_)
    refine lv_iload_n S.1 S.2.1 dX6_shut_15 rfl (lv_at hl 0 rfl) ?_
    exact cv_zret S hr (by decide) hlk hsz h ⟨ho.symm, by rw [eσ15, eσ14]⟩ dX6_shut_16
  · refine lv_aload_n S.1 S.2.1 dX6_shut_0 rfl (lv_at hl 0 rfl) ?_
    refine lv_iconst (v := 0) S.1 S.2.1 dX6_shut_1 (by decide) ?_
    refine cv_pf (ci := 6) (C := RX6) (T := TX6) (N := 18) (x := 0) S K h 49 rfl hinX6 rfl rfl 0 cv_pok_X6_0 hf_38 rfl rfl rfl (Nat.le_of_ble_eq_true rfl) rfl dX6_shut_2 (fun σ16 H locs eσ16 h => ?_)
    refine lv_aload_n S.1 S.2.1 dX6_shut_5 rfl (lv_at hl 0 rfl) ?_
    refine cv_gf (ci := 6) (C := RX6) (T := TX6) (N := 18) (v := .int (σ16.2.2.1 49 2)) S K h 49 rfl hinX6 rfl rfl 2 (by decide) hf_147 rfl rfl dX6_shut_6 ?_
    refine cv_rei (show (σ16.2.2.1 49 2) = 1 from by rw [eσ16, cv_F3, if_pos rfl, if_neg (by decide)]; exact ho) ?_
    refine lv_istore_n (lv' := [(1, .int 1), (0, .ref (E.2.1 49))]) S.1 S.2.1 dX6_shut_9 rfl hl (by decide) rfl (fun ls hl => ?_)
    refine lv_aload_n S.1 S.2.1 dX6_shut_10 rfl (lv_at hl 1 rfl) ?_
    refine lv_iconst (v := 0) S.1 S.2.1 dX6_shut_11 (by decide) ?_
    refine cv_pf (ci := 6) (C := RX6) (T := TX6) (N := 18) (x := 0) S K h 49 rfl hinX6 rfl rfl 2 cv_pok_X6_2 hf_147 rfl rfl rfl (Nat.le_of_ble_eq_true rfl) rfl dX6_shut_12 (fun σ17 H locs eσ17 h => ?_)
    refine lv_iload_n S.1 S.2.1 dX6_shut_15 rfl (lv_at hl 0 rfl) ?_
    exact cv_zret S hr (by decide) hlk hsz h ⟨ho.symm, by rw [eσ17, eσ16]⟩ dX6_shut_16

set_option maxHeartbeats 4000000 in
set_option maxRecDepth 100000 in
theorem m_isOpen (l : Launch) (E : cv_E) (σ : cv_S) (hop : σ.2.2.1 49 2 = 0 ∨ σ.2.2.1 49 2 = 1) : cv_Mi l E yX6_isOpen wsX6_isOpen (cv_R 1) [.ref (E.2.1 49)] σ (fun r τ => r = σ.2.2.1 49 2 ∧ τ = cv_uF σ 49 0 0) := by
  intro sz
  refine cv_in (ws := wsX6_isOpen) (cc := cX6_isOpen) (maxL := 1) (ret := (some .boolean)) (own := RX6) rfl (by decide) rfl (Nat.le_of_ble_eq_true rfl) ?_
  intro p e s m below meth c S K hr hlk hsz h ls hl
  have hl : lv_has ls 1 [(0, .ref (E.2.1 49))] := hl
  have hinX6 : ∀ w ∈ u_ws RX6 TX6 18, w ∈ wsX6_isOpen := by decide +kernel
  have hf_147 := S.2.2.2.2 (.fieldLink RX6 147 "CrashVaultModel" "open" "Z") (by decide +kernel)
  have hf_38 := S.2.2.2.2 (.fieldLink RX6 38 "CrashVaultModel" "thrown" "I") (by decide +kernel)
  rcases hop with ho | ho
  · refine lv_aload_n S.1 S.2.1 dX6_isOpen_0 rfl (lv_at hl 0 rfl) ?_
    refine lv_iconst (v := 0) S.1 S.2.1 dX6_isOpen_1 (by decide) ?_
    refine cv_pf (ci := 6) (C := RX6) (T := TX6) (N := 18) (x := 0) S K h 49 rfl hinX6 rfl rfl 0 cv_pok_X6_0 hf_38 rfl rfl rfl (Nat.le_of_ble_eq_true rfl) rfl dX6_isOpen_2 (fun σ18 H locs eσ18 h => ?_)
    refine lv_aload_n S.1 S.2.1 dX6_isOpen_5 rfl (lv_at hl 0 rfl) ?_
    refine cv_gf (ci := 6) (C := RX6) (T := TX6) (N := 18) (v := .int (σ18.2.2.1 49 2)) S K h 49 rfl hinX6 rfl rfl 2 (by decide) hf_147 rfl rfl dX6_isOpen_6 ?_
    refine cv_rei (show (σ18.2.2.1 49 2) = 0 from by rw [eσ18, cv_F3, if_pos rfl, if_neg (by decide)]; exact ho) ?_
    exact cv_zret S hr (by decide) hlk hsz h ⟨ho.symm, eσ18⟩ dX6_isOpen_9
  · refine lv_aload_n S.1 S.2.1 dX6_isOpen_0 rfl (lv_at hl 0 rfl) ?_
    refine lv_iconst (v := 0) S.1 S.2.1 dX6_isOpen_1 (by decide) ?_
    refine cv_pf (ci := 6) (C := RX6) (T := TX6) (N := 18) (x := 0) S K h 49 rfl hinX6 rfl rfl 0 cv_pok_X6_0 hf_38 rfl rfl rfl (Nat.le_of_ble_eq_true rfl) rfl dX6_isOpen_2 (fun σ19 H locs eσ19 h => ?_)
    refine lv_aload_n S.1 S.2.1 dX6_isOpen_5 rfl (lv_at hl 0 rfl) ?_
    refine cv_gf (ci := 6) (C := RX6) (T := TX6) (N := 18) (v := .int (σ19.2.2.1 49 2)) S K h 49 rfl hinX6 rfl rfl 2 (by decide) hf_147 rfl rfl dX6_isOpen_6 ?_
    refine cv_rei (show (σ19.2.2.1 49 2) = 1 from by rw [eσ19, cv_F3, if_pos rfl, if_neg (by decide)]; exact ho) ?_
    exact cv_zret S hr (by decide) hlk hsz h ⟨ho.symm, eσ19⟩ dX6_isOpen_9

set_option maxHeartbeats 4000000 in
set_option maxRecDepth 100000 in
theorem m_length (l : Launch) (E : cv_E) (σ : cv_S) (hop : σ.2.2.1 49 2 = 0 ∨ σ.2.2.1 49 2 = 1) (cnt : Nat) (N : Nat → Int64) (O : Nat → Nat) (V : Nat → Nat → Int64) (hR0 : σ.2.2.1 49 2 = 1 → em_R σ cnt N O V) : cv_Mi l E yX6_length wsX6_length (cv_R 2) [.ref (E.2.1 49)] σ (fun r τ => (σ.2.2.1 49 2 = 0 ∧ τ = cv_uF σ 49 0 1) ∨ (σ.2.2.1 49 2 = 1 ∧ τ = cv_uF σ 49 0 0 ∧ r = nI (29 + co_sz O cnt))) := by
  intro sz
  refine cv_in (ws := wsX6_length) (cc := cX6_length) (maxL := 1) (ret := (some .int)) (own := RX6) rfl (by decide) rfl (Nat.le_of_ble_eq_true rfl) ?_
  intro p e s m below meth c S K hr hlk hsz h ls hl
  have hl : lv_has ls 1 [(0, .ref (E.2.1 49))] := hl
  have hinX6 : ∀ w ∈ u_ws RX6 TX6 18, w ∈ wsX6_length := by decide +kernel
  have hf_147 := S.2.2.2.2 (.fieldLink RX6 147 "CrashVaultModel" "open" "Z") (by decide +kernel)
  have hf_38 := S.2.2.2.2 (.fieldLink RX6 38 "CrashVaultModel" "thrown" "I") (by decide +kernel)
  rcases hop with ho | ho
  · refine lv_aload_n S.1 S.2.1 dX6_length_0 rfl (lv_at hl 0 rfl) ?_
    refine lv_aload_n S.1 S.2.1 dX6_length_1 rfl (lv_at hl 0 rfl) ?_
    refine cv_gf (ci := 6) (C := RX6) (T := TX6) (N := 18) (v := .int (σ.2.2.1 49 2)) S K h 49 rfl hinX6 rfl rfl 2 (by decide) hf_147 rfl rfl dX6_length_2 ?_
    refine cv_rei (show (σ.2.2.1 49 2) = 0 from ho) ?_
    refine lv_if_eq (tgt := 12) S.1 S.2.1 dX6_length_5 (by decide) (fun c20 => ?_) (fun c20 => ?_)
    · refine lv_iconst (v := 1) S.1 S.2.1 dX6_length_12 (by decide) ?_
      refine cv_pf (ci := 6) (C := RX6) (T := TX6) (N := 18) (x := 1) S K h 49 rfl hinX6 rfl rfl 0 cv_pok_X6_0 hf_38 rfl rfl rfl (Nat.le_of_ble_eq_true rfl) rfl dX6_length_13 (fun σ21 H locs eσ21 h => ?_)
      refine lv_aload_n S.1 S.2.1 dX6_length_16 rfl (lv_at hl 0 rfl) ?_
      refine cv_gf (ci := 6) (C := RX6) (T := TX6) (N := 18) (v := .int (σ21.2.2.1 49 2)) S K h 49 rfl hinX6 rfl rfl 2 (by decide) hf_147 rfl rfl dX6_length_17 ?_
      refine cv_rei (show (σ21.2.2.1 49 2) = 0 from by rw [eσ21, cv_F3, if_pos rfl, if_neg (by decide)]; exact ho) ?_
      refine lv_if_eq (tgt := 33) S.1 S.2.1 dX6_length_20 (by decide) (fun c22 => ?_) (fun c22 => ?_)
      · refine lv_iconst (v := 0) S.1 S.2.1 dX6_length_33 (by decide) ?_
        exact cv_iret S hr hlk hsz h (Or.inl ⟨ho, eσ21⟩) dX6_length_34
      · exact absurd c22 (by decide)
    · exact absurd c20 (by decide)
  · refine lv_aload_n S.1 S.2.1 dX6_length_0 rfl (lv_at hl 0 rfl) ?_
    refine lv_aload_n S.1 S.2.1 dX6_length_1 rfl (lv_at hl 0 rfl) ?_
    refine cv_gf (ci := 6) (C := RX6) (T := TX6) (N := 18) (v := .int (σ.2.2.1 49 2)) S K h 49 rfl hinX6 rfl rfl 2 (by decide) hf_147 rfl rfl dX6_length_2 ?_
    refine cv_rei (show (σ.2.2.1 49 2) = 1 from ho) ?_
    refine lv_if_eq (tgt := 12) S.1 S.2.1 dX6_length_5 (by decide) (fun c23 => ?_) (fun c23 => ?_)
    · exact absurd c23 (by decide)
    · refine lv_iconst (v := 0) S.1 S.2.1 dX6_length_8 (by decide) ?_
      refine lv_goto (tgt := 13) S.1 S.2.1 dX6_length_9 (by decide) ?_
      refine cv_pf (ci := 6) (C := RX6) (T := TX6) (N := 18) (x := 0) S K h 49 rfl hinX6 rfl rfl 0 cv_pok_X6_0 hf_38 rfl rfl rfl (Nat.le_of_ble_eq_true rfl) rfl dX6_length_13 (fun σ24 H locs eσ24 h => ?_)
      refine lv_aload_n S.1 S.2.1 dX6_length_16 rfl (lv_at hl 0 rfl) ?_
      refine cv_gf (ci := 6) (C := RX6) (T := TX6) (N := 18) (v := .int (σ24.2.2.1 49 2)) S K h 49 rfl hinX6 rfl rfl 2 (by decide) hf_147 rfl rfl dX6_length_17 ?_
      refine cv_rei (show (σ24.2.2.1 49 2) = 1 from by rw [eσ24, cv_F3, if_pos rfl, if_neg (by decide)]; exact ho) ?_
      refine lv_if_eq (tgt := 33) S.1 S.2.1 dX6_length_20 (by decide) (fun c25 => ?_) (fun c25 => ?_)
      · exact absurd c25 (by decide)
      · refine lv_bipush (v := 29) S.1 S.2.1 dX6_length_23 (by decide) ?_
        refine lv_aload_n S.1 S.2.1 dX6_length_25 rfl (lv_at hl 0 rfl) ?_
        have hR1 : em_R σ24 cnt N O V := by rw [eσ24]; exact em_uF (hR0 ho) (by decide)
        refine cv_calli (ci := 6) (C := RX6) (T := TX6) (N := 18) S K h hl.1 rfl rfl rfl (m_contentSize l E σ24 cnt N O V hR1) (cwV 0 S.2.2.2.2 gX6_length_X6_contentSize rfl rfl rfl (by decide +kernel) ⟨Nat.le_of_ble_eq_true rfl, Nat.le_of_ble_eq_true rfl⟩) rfl rfl (Nat.le_of_ble_eq_true rfl) ⟨Nat.zero_le _, Nat.zero_le _⟩ dX6_length_26 (fun nb σ26 H locs ⟨hnb, hs9⟩ h => ?_)
        rw [hs9] at h
        refine lv_iadd S.1 S.2.1 dX6_length_29 ?_
        refine lv_goto (tgt := 34) S.1 S.2.1 dX6_length_30 (by decide) ?_
        exact cv_iret S hr hlk hsz h (Or.inr ⟨ho, eσ24, by rw [hnb]; exact nI_add 29 _⟩) dX6_length_34

set_option maxHeartbeats 4000000 in
set_option maxRecDepth 100000 in
theorem m_serial (l : Launch) (E : cv_E) (σ : cv_S) (hop : σ.2.2.1 49 2 = 0 ∨ σ.2.2.1 49 2 = 1) : cv_Mi l E yX6_serial wsX6_serial (cv_R 1) [.ref (E.2.1 49)] σ (fun r τ => (σ.2.2.1 49 2 = 0 ∧ τ = cv_uF σ 49 0 1) ∨ (σ.2.2.1 49 2 = 1 ∧ τ = cv_uF σ 49 0 0 ∧ r = σ.2.2.1 49 7)) := by
  intro sz
  refine cv_in (ws := wsX6_serial) (cc := cX6_serial) (maxL := 1) (ret := (some .int)) (own := RX6) rfl (by decide) rfl (Nat.le_of_ble_eq_true rfl) ?_
  intro p e s m below meth c S K hr hlk hsz h ls hl
  have hl : lv_has ls 1 [(0, .ref (E.2.1 49))] := hl
  have hinX6 : ∀ w ∈ u_ws RX6 TX6 18, w ∈ wsX6_serial := by decide +kernel
  have hf_141 := S.2.2.2.2 (.fieldLink RX6 141 "CrashVaultModel" "serial" "I") (by decide +kernel)
  have hf_147 := S.2.2.2.2 (.fieldLink RX6 147 "CrashVaultModel" "open" "Z") (by decide +kernel)
  have hf_38 := S.2.2.2.2 (.fieldLink RX6 38 "CrashVaultModel" "thrown" "I") (by decide +kernel)
  rcases hop with ho | ho
  · refine lv_aload_n S.1 S.2.1 dX6_serial_0 rfl (lv_at hl 0 rfl) ?_
    refine lv_aload_n S.1 S.2.1 dX6_serial_1 rfl (lv_at hl 0 rfl) ?_
    refine cv_gf (ci := 6) (C := RX6) (T := TX6) (N := 18) (v := .int (σ.2.2.1 49 2)) S K h 49 rfl hinX6 rfl rfl 2 (by decide) hf_147 rfl rfl dX6_serial_2 ?_
    refine cv_rei (show (σ.2.2.1 49 2) = 0 from ho) ?_
    refine lv_if_eq (tgt := 12) S.1 S.2.1 dX6_serial_5 (by decide) (fun c27 => ?_) (fun c27 => ?_)
    · refine lv_iconst (v := 1) S.1 S.2.1 dX6_serial_12 (by decide) ?_
      refine cv_pf (ci := 6) (C := RX6) (T := TX6) (N := 18) (x := 1) S K h 49 rfl hinX6 rfl rfl 0 cv_pok_X6_0 hf_38 rfl rfl rfl (Nat.le_of_ble_eq_true rfl) rfl dX6_serial_13 (fun σ28 H locs eσ28 h => ?_)
      refine lv_aload_n S.1 S.2.1 dX6_serial_16 rfl (lv_at hl 0 rfl) ?_
      refine cv_gf (ci := 6) (C := RX6) (T := TX6) (N := 18) (v := .int (σ28.2.2.1 49 2)) S K h 49 rfl hinX6 rfl rfl 2 (by decide) hf_147 rfl rfl dX6_serial_17 ?_
      refine cv_rei (show (σ28.2.2.1 49 2) = 0 from by rw [eσ28, cv_F3, if_pos rfl, if_neg (by decide)]; exact ho) ?_
      refine lv_if_eq (tgt := 30) S.1 S.2.1 dX6_serial_20 (by decide) (fun c29 => ?_) (fun c29 => ?_)
      · refine lv_iconst (v := 0) S.1 S.2.1 dX6_serial_30 (by decide) ?_
        exact cv_iret S hr hlk hsz h (Or.inl ⟨ho, eσ28⟩) dX6_serial_31
      · exact absurd c29 (by decide)
    · exact absurd c27 (by decide)
  · refine lv_aload_n S.1 S.2.1 dX6_serial_0 rfl (lv_at hl 0 rfl) ?_
    refine lv_aload_n S.1 S.2.1 dX6_serial_1 rfl (lv_at hl 0 rfl) ?_
    refine cv_gf (ci := 6) (C := RX6) (T := TX6) (N := 18) (v := .int (σ.2.2.1 49 2)) S K h 49 rfl hinX6 rfl rfl 2 (by decide) hf_147 rfl rfl dX6_serial_2 ?_
    refine cv_rei (show (σ.2.2.1 49 2) = 1 from ho) ?_
    refine lv_if_eq (tgt := 12) S.1 S.2.1 dX6_serial_5 (by decide) (fun c30 => ?_) (fun c30 => ?_)
    · exact absurd c30 (by decide)
    · refine lv_iconst (v := 0) S.1 S.2.1 dX6_serial_8 (by decide) ?_
      refine lv_goto (tgt := 13) S.1 S.2.1 dX6_serial_9 (by decide) ?_
      refine cv_pf (ci := 6) (C := RX6) (T := TX6) (N := 18) (x := 0) S K h 49 rfl hinX6 rfl rfl 0 cv_pok_X6_0 hf_38 rfl rfl rfl (Nat.le_of_ble_eq_true rfl) rfl dX6_serial_13 (fun σ31 H locs eσ31 h => ?_)
      refine lv_aload_n S.1 S.2.1 dX6_serial_16 rfl (lv_at hl 0 rfl) ?_
      refine cv_gf (ci := 6) (C := RX6) (T := TX6) (N := 18) (v := .int (σ31.2.2.1 49 2)) S K h 49 rfl hinX6 rfl rfl 2 (by decide) hf_147 rfl rfl dX6_serial_17 ?_
      refine cv_rei (show (σ31.2.2.1 49 2) = 1 from by rw [eσ31, cv_F3, if_pos rfl, if_neg (by decide)]; exact ho) ?_
      refine lv_if_eq (tgt := 30) S.1 S.2.1 dX6_serial_20 (by decide) (fun c32 => ?_) (fun c32 => ?_)
      · exact absurd c32 (by decide)
      · refine lv_aload_n S.1 S.2.1 dX6_serial_23 rfl (lv_at hl 0 rfl) ?_
        refine cv_gf (ci := 6) (C := RX6) (T := TX6) (N := 18) (v := .int (σ31.2.2.1 49 7)) S K h 49 rfl hinX6 rfl rfl 7 (by decide) hf_141 rfl rfl dX6_serial_24 ?_
        refine lv_goto (tgt := 31) S.1 S.2.1 dX6_serial_27 (by decide) ?_
        exact cv_iret S hr hlk hsz h (Or.inr ⟨ho, eσ31, by rw [eσ31, cv_F3, if_pos rfl, if_neg (by decide)]⟩) dX6_serial_31

set_option maxHeartbeats 4000000 in
set_option maxRecDepth 100000 in
theorem m_entries (l : Launch) (E : cv_E) (σ : cv_S) (hop : σ.2.2.1 49 2 = 0 ∨ σ.2.2.1 49 2 = 1) : cv_Mi l E yX6_entries wsX6_entries (cv_R 1) [.ref (E.2.1 49)] σ (fun r τ => (σ.2.2.1 49 2 = 0 ∧ τ = cv_uF σ 49 0 1) ∨ (σ.2.2.1 49 2 = 1 ∧ τ = cv_uF σ 49 0 0 ∧ r = σ.2.2.1 49 8)) := by
  intro sz
  refine cv_in (ws := wsX6_entries) (cc := cX6_entries) (maxL := 1) (ret := (some .int)) (own := RX6) rfl (by decide) rfl (Nat.le_of_ble_eq_true rfl) ?_
  intro p e s m below meth c S K hr hlk hsz h ls hl
  have hl : lv_has ls 1 [(0, .ref (E.2.1 49))] := hl
  have hinX6 : ∀ w ∈ u_ws RX6 TX6 18, w ∈ wsX6_entries := by decide +kernel
  have hf_147 := S.2.2.2.2 (.fieldLink RX6 147 "CrashVaultModel" "open" "Z") (by decide +kernel)
  have hf_38 := S.2.2.2.2 (.fieldLink RX6 38 "CrashVaultModel" "thrown" "I") (by decide +kernel)
  have hf_78 := S.2.2.2.2 (.fieldLink RX6 78 "CrashVaultModel" "entries" "I") (by decide +kernel)
  rcases hop with ho | ho
  · refine lv_aload_n S.1 S.2.1 dX6_entries_0 rfl (lv_at hl 0 rfl) ?_
    refine lv_aload_n S.1 S.2.1 dX6_entries_1 rfl (lv_at hl 0 rfl) ?_
    refine cv_gf (ci := 6) (C := RX6) (T := TX6) (N := 18) (v := .int (σ.2.2.1 49 2)) S K h 49 rfl hinX6 rfl rfl 2 (by decide) hf_147 rfl rfl dX6_entries_2 ?_
    refine cv_rei (show (σ.2.2.1 49 2) = 0 from ho) ?_
    refine lv_if_eq (tgt := 12) S.1 S.2.1 dX6_entries_5 (by decide) (fun c33 => ?_) (fun c33 => ?_)
    · refine lv_iconst (v := 1) S.1 S.2.1 dX6_entries_12 (by decide) ?_
      refine cv_pf (ci := 6) (C := RX6) (T := TX6) (N := 18) (x := 1) S K h 49 rfl hinX6 rfl rfl 0 cv_pok_X6_0 hf_38 rfl rfl rfl (Nat.le_of_ble_eq_true rfl) rfl dX6_entries_13 (fun σ34 H locs eσ34 h => ?_)
      refine lv_aload_n S.1 S.2.1 dX6_entries_16 rfl (lv_at hl 0 rfl) ?_
      refine cv_gf (ci := 6) (C := RX6) (T := TX6) (N := 18) (v := .int (σ34.2.2.1 49 2)) S K h 49 rfl hinX6 rfl rfl 2 (by decide) hf_147 rfl rfl dX6_entries_17 ?_
      refine cv_rei (show (σ34.2.2.1 49 2) = 0 from by rw [eσ34, cv_F3, if_pos rfl, if_neg (by decide)]; exact ho) ?_
      refine lv_if_eq (tgt := 30) S.1 S.2.1 dX6_entries_20 (by decide) (fun c35 => ?_) (fun c35 => ?_)
      · refine lv_iconst (v := 0) S.1 S.2.1 dX6_entries_30 (by decide) ?_
        exact cv_iret S hr hlk hsz h (Or.inl ⟨ho, eσ34⟩) dX6_entries_31
      · exact absurd c35 (by decide)
    · exact absurd c33 (by decide)
  · refine lv_aload_n S.1 S.2.1 dX6_entries_0 rfl (lv_at hl 0 rfl) ?_
    refine lv_aload_n S.1 S.2.1 dX6_entries_1 rfl (lv_at hl 0 rfl) ?_
    refine cv_gf (ci := 6) (C := RX6) (T := TX6) (N := 18) (v := .int (σ.2.2.1 49 2)) S K h 49 rfl hinX6 rfl rfl 2 (by decide) hf_147 rfl rfl dX6_entries_2 ?_
    refine cv_rei (show (σ.2.2.1 49 2) = 1 from ho) ?_
    refine lv_if_eq (tgt := 12) S.1 S.2.1 dX6_entries_5 (by decide) (fun c36 => ?_) (fun c36 => ?_)
    · exact absurd c36 (by decide)
    · refine lv_iconst (v := 0) S.1 S.2.1 dX6_entries_8 (by decide) ?_
      refine lv_goto (tgt := 13) S.1 S.2.1 dX6_entries_9 (by decide) ?_
      refine cv_pf (ci := 6) (C := RX6) (T := TX6) (N := 18) (x := 0) S K h 49 rfl hinX6 rfl rfl 0 cv_pok_X6_0 hf_38 rfl rfl rfl (Nat.le_of_ble_eq_true rfl) rfl dX6_entries_13 (fun σ37 H locs eσ37 h => ?_)
      refine lv_aload_n S.1 S.2.1 dX6_entries_16 rfl (lv_at hl 0 rfl) ?_
      refine cv_gf (ci := 6) (C := RX6) (T := TX6) (N := 18) (v := .int (σ37.2.2.1 49 2)) S K h 49 rfl hinX6 rfl rfl 2 (by decide) hf_147 rfl rfl dX6_entries_17 ?_
      refine cv_rei (show (σ37.2.2.1 49 2) = 1 from by rw [eσ37, cv_F3, if_pos rfl, if_neg (by decide)]; exact ho) ?_
      refine lv_if_eq (tgt := 30) S.1 S.2.1 dX6_entries_20 (by decide) (fun c38 => ?_) (fun c38 => ?_)
      · exact absurd c38 (by decide)
      · refine lv_aload_n S.1 S.2.1 dX6_entries_23 rfl (lv_at hl 0 rfl) ?_
        refine cv_gf (ci := 6) (C := RX6) (T := TX6) (N := 18) (v := .int (σ37.2.2.1 49 8)) S K h 49 rfl hinX6 rfl rfl 8 (by decide) hf_78 rfl rfl dX6_entries_24 ?_
        refine lv_goto (tgt := 31) S.1 S.2.1 dX6_entries_27 (by decide) ?_
        exact cv_iret S hr hlk hsz h (Or.inr ⟨ho, eσ37, by rw [eσ37, cv_F3, if_pos rfl, if_neg (by decide)]⟩) dX6_entries_31

set_option maxHeartbeats 4000000 in
set_option maxRecDepth 100000 in
theorem m_name (l : Launch) (E : cv_E) (σ : cv_S) (hop : σ.2.2.1 49 2 = 0 ∨ σ.2.2.1 49 2 = 1) (cnt : Nat) (hc8 : cnt ≤ 8) (hct : σ.2.2.1 49 8 = nI cnt) (i : Int32) : cv_Ml l E yX6_name wsX6_name (cv_R 1) [.ref (E.2.1 49), .int i] σ (fun r τ => (σ.2.2.1 49 2 = 0 ∧ τ = cv_uF σ 49 0 1) ∨ (σ.2.2.1 49 2 = 1 ∧ (i < 0 ∨ nI cnt ≤ i) ∧ τ = cv_uF σ 49 0 2) ∨ (σ.2.2.1 49 2 = 1 ∧ τ = cv_uF σ 49 0 0 ∧ ∃ j, j < cnt ∧ i = nI j ∧ r = σ.2.1 51 j)) := by
  intro sz
  refine cv_in (ws := wsX6_name) (cc := cX6_name) (maxL := 2) (ret := (some .long)) (own := RX6) rfl (by decide) rfl (Nat.le_of_ble_eq_true rfl) ?_
  intro p e s m below meth c S K hr hlk hsz h ls hl
  have hl : lv_has ls 2 [(0, .ref (E.2.1 49)), (1, .int i)] := hl
  have hinX6 : ∀ w ∈ u_ws RX6 TX6 18, w ∈ wsX6_name := by decide +kernel
  have hf_13 := S.2.2.2.2 (.fieldLink RX6 13 "CrashVaultModel" "names" "[J") (by decide +kernel)
  have hf_147 := S.2.2.2.2 (.fieldLink RX6 147 "CrashVaultModel" "open" "Z") (by decide +kernel)
  have hf_38 := S.2.2.2.2 (.fieldLink RX6 38 "CrashVaultModel" "thrown" "I") (by decide +kernel)
  have hf_78 := S.2.2.2.2 (.fieldLink RX6 78 "CrashVaultModel" "entries" "I") (by decide +kernel)
  rcases hop with ho | ho
  · refine lv_aload_n S.1 S.2.1 dX6_name_0 rfl (lv_at hl 0 rfl) ?_
    refine lv_aload_n S.1 S.2.1 dX6_name_1 rfl (lv_at hl 0 rfl) ?_
    refine cv_gf (ci := 6) (C := RX6) (T := TX6) (N := 18) (v := .int (σ.2.2.1 49 2)) S K h 49 rfl hinX6 rfl rfl 2 (by decide) hf_147 rfl rfl dX6_name_2 ?_
    refine cv_rei (show (σ.2.2.1 49 2) = 0 from ho) ?_
    refine lv_if_ne (tgt := 12) S.1 S.2.1 dX6_name_5 (by decide) (fun c39 => ?_) (fun c39 => ?_)
    · exact absurd c39 (by decide)
    · refine lv_iconst (v := 1) S.1 S.2.1 dX6_name_8 (by decide) ?_
      refine lv_goto (tgt := 29) S.1 S.2.1 dX6_name_9 (by decide) ?_
      refine cv_pf (ci := 6) (C := RX6) (T := TX6) (N := 18) (x := 1) S K h 49 rfl hinX6 rfl rfl 0 cv_pok_X6_0 hf_38 rfl rfl rfl (Nat.le_of_ble_eq_true rfl) rfl dX6_name_29 (fun σ40 H locs eσ40 h => ?_)
      refine lv_aload_n S.1 S.2.1 dX6_name_32 rfl (lv_at hl 0 rfl) ?_
      refine cv_gf (ci := 6) (C := RX6) (T := TX6) (N := 18) (v := .int (σ40.2.2.1 49 0)) S K h 49 rfl hinX6 rfl rfl 0 (by decide) hf_38 rfl rfl dX6_name_33 ?_
      refine cv_rei (show (σ40.2.2.1 49 0) = 1 from by rw [eσ40, cv_F3, if_pos rfl, if_pos rfl]) ?_
      refine lv_if_ne (tgt := 48) S.1 S.2.1 dX6_name_36 (by decide) (fun c41 => ?_) (fun c41 => ?_)
      · refine lv_lconst (v := 0) S.1 S.2.1 dX6_name_48 (by decide) ?_
        exact cv_lret S hr hlk hsz h (Or.inl ⟨ho, eσ40⟩) dX6_name_49
      · exact absurd c41 (by decide)
  · refine lv_aload_n S.1 S.2.1 dX6_name_0 rfl (lv_at hl 0 rfl) ?_
    refine lv_aload_n S.1 S.2.1 dX6_name_1 rfl (lv_at hl 0 rfl) ?_
    refine cv_gf (ci := 6) (C := RX6) (T := TX6) (N := 18) (v := .int (σ.2.2.1 49 2)) S K h 49 rfl hinX6 rfl rfl 2 (by decide) hf_147 rfl rfl dX6_name_2 ?_
    refine cv_rei (show (σ.2.2.1 49 2) = 1 from ho) ?_
    refine lv_if_ne (tgt := 12) S.1 S.2.1 dX6_name_5 (by decide) (fun c42 => ?_) (fun c42 => ?_)
    · refine lv_iload_n S.1 S.2.1 dX6_name_12 rfl (lv_at hl 1 rfl) ?_
      refine lv_if_lt (tgt := 24) S.1 S.2.1 dX6_name_13 (by decide) (fun c43 => ?_) (fun c43 => ?_)
      · refine lv_iconst (v := 2) S.1 S.2.1 dX6_name_24 (by decide) ?_
        refine lv_goto (tgt := 29) S.1 S.2.1 dX6_name_25 (by decide) ?_
        refine cv_pf (ci := 6) (C := RX6) (T := TX6) (N := 18) (x := 2) S K h 49 rfl hinX6 rfl rfl 0 cv_pok_X6_0 hf_38 rfl rfl rfl (Nat.le_of_ble_eq_true rfl) rfl dX6_name_29 (fun σ44 H locs eσ44 h => ?_)
        refine lv_aload_n S.1 S.2.1 dX6_name_32 rfl (lv_at hl 0 rfl) ?_
        refine cv_gf (ci := 6) (C := RX6) (T := TX6) (N := 18) (v := .int (σ44.2.2.1 49 0)) S K h 49 rfl hinX6 rfl rfl 0 (by decide) hf_38 rfl rfl dX6_name_33 ?_
        refine cv_rei (show (σ44.2.2.1 49 0) = 2 from by rw [eσ44, cv_F3, if_pos rfl, if_pos rfl]) ?_
        refine lv_if_ne (tgt := 48) S.1 S.2.1 dX6_name_36 (by decide) (fun c45 => ?_) (fun c45 => ?_)
        · refine lv_lconst (v := 0) S.1 S.2.1 dX6_name_48 (by decide) ?_
          exact cv_lret S hr hlk hsz h (Or.inr (Or.inl ⟨ho, Or.inl c43, eσ44⟩)) dX6_name_49
        · exact absurd c45 (by decide)
      · refine lv_iload_n S.1 S.2.1 dX6_name_16 rfl (lv_at hl 1 rfl) ?_
        refine lv_aload_n S.1 S.2.1 dX6_name_17 rfl (lv_at hl 0 rfl) ?_
        refine cv_gf (ci := 6) (C := RX6) (T := TX6) (N := 18) (v := .int (σ.2.2.1 49 8)) S K h 49 rfl hinX6 rfl rfl 8 (by decide) hf_78 rfl rfl dX6_name_18 ?_
        refine cv_rei (show (σ.2.2.1 49 8) = nI cnt from hct) ?_
        refine lv_icmp_lt (tgt := 28) S.1 S.2.1 dX6_name_21 (by decide) (fun c46 => ?_) (fun c46 => ?_)
        · refine lv_iconst (v := 0) S.1 S.2.1 dX6_name_28 (by decide) ?_
          refine cv_pf (ci := 6) (C := RX6) (T := TX6) (N := 18) (x := 0) S K h 49 rfl hinX6 rfl rfl 0 cv_pok_X6_0 hf_38 rfl rfl rfl (Nat.le_of_ble_eq_true rfl) rfl dX6_name_29 (fun σ47 H locs eσ47 h => ?_)
          refine lv_aload_n S.1 S.2.1 dX6_name_32 rfl (lv_at hl 0 rfl) ?_
          refine cv_gf (ci := 6) (C := RX6) (T := TX6) (N := 18) (v := .int (σ47.2.2.1 49 0)) S K h 49 rfl hinX6 rfl rfl 0 (by decide) hf_38 rfl rfl dX6_name_33 ?_
          refine cv_rei (show (σ47.2.2.1 49 0) = 0 from by rw [eσ47, cv_F3, if_pos rfl, if_pos rfl]) ?_
          refine lv_if_ne (tgt := 48) S.1 S.2.1 dX6_name_36 (by decide) (fun c48 => ?_) (fun c48 => ?_)
          · exact absurd c48 (by decide)
          · obtain ⟨j, hj, hij⟩ : ∃ j : Nat, j < cnt ∧ i = nI j := by
              rcases pk_ix i (show cnt < 2 ^ 31 by omega) with q | q | q
              · exact absurd q c43
              · exact absurd c46 (Int32.not_lt.mpr q)
              · exact q
            refine lv_aload_n S.1 S.2.1 dX6_name_39 rfl (lv_at hl 0 rfl) ?_
            refine cv_gf (ci := 6) (C := RX6) (T := TX6) (N := 18) (v := .ref (E.2.1 51)) S K h 49 rfl hinX6 rfl rfl 9 (by decide) hf_13 rfl rfl dX6_name_40 ?_
            refine lv_iload_n S.1 S.2.1 dX6_name_43 rfl (lv_at hl 1 rfl) ?_
            refine cv_lald S K h 51 rfl (n := 8) rfl j hij (by omega) dX6_name_44 ?_
            refine lv_goto (tgt := 49) S.1 S.2.1 dX6_name_45 (by decide) ?_
            exact cv_lret S hr hlk hsz h (Or.inr (Or.inr ⟨ho, eσ47, j, hj, hij, by rw [eσ47]; rfl⟩)) dX6_name_49
        · refine lv_iconst (v := 2) S.1 S.2.1 dX6_name_24 (by decide) ?_
          refine lv_goto (tgt := 29) S.1 S.2.1 dX6_name_25 (by decide) ?_
          refine cv_pf (ci := 6) (C := RX6) (T := TX6) (N := 18) (x := 2) S K h 49 rfl hinX6 rfl rfl 0 cv_pok_X6_0 hf_38 rfl rfl rfl (Nat.le_of_ble_eq_true rfl) rfl dX6_name_29 (fun σ49 H locs eσ49 h => ?_)
          refine lv_aload_n S.1 S.2.1 dX6_name_32 rfl (lv_at hl 0 rfl) ?_
          refine cv_gf (ci := 6) (C := RX6) (T := TX6) (N := 18) (v := .int (σ49.2.2.1 49 0)) S K h 49 rfl hinX6 rfl rfl 0 (by decide) hf_38 rfl rfl dX6_name_33 ?_
          refine cv_rei (show (σ49.2.2.1 49 0) = 2 from by rw [eσ49, cv_F3, if_pos rfl, if_pos rfl]) ?_
          refine lv_if_ne (tgt := 48) S.1 S.2.1 dX6_name_36 (by decide) (fun c50 => ?_) (fun c50 => ?_)
          · refine lv_lconst (v := 0) S.1 S.2.1 dX6_name_48 (by decide) ?_
            exact cv_lret S hr hlk hsz h (Or.inr (Or.inl ⟨ho, Or.inr (Int32.not_lt.mp c46), eσ49⟩)) dX6_name_49
          · exact absurd c50 (by decide)
    · exact absurd c42 (by decide)

theorem disk_ge {i : Int32} (h : ¬ i ≤ 599) : nI 600 ≤ i := by
  rcases pk_ix i (show 600 < 2 ^ 31 by decide) with q | q | ⟨j, hj, hij⟩
  · exact absurd (Int32.le_of_lt (Int32.lt_trans q (by decide))) h
  · exact q
  · exact absurd (by rw [hij]; exact nI_le (b := 599) (by omega) (by decide)) h

set_option maxHeartbeats 4000000 in
set_option maxRecDepth 100000 in
theorem m_disk (l : Launch) (E : cv_E) (σ : cv_S) (i : Int32) : cv_Mi l E yX6_disk wsX6_disk (cv_R 1) [.ref (E.2.1 49), .int i] σ (fun r τ => ((i < 0 ∨ nI 600 ≤ i) ∧ τ = cv_uF σ 49 0 1) ∨ (τ = cv_uF σ 49 0 0 ∧ ∃ j, j < 600 ∧ i = nI j ∧ r = σ.1 50 j)) := by
  intro sz
  refine cv_in (ws := wsX6_disk) (cc := cX6_disk) (maxL := 2) (ret := (some .int)) (own := RX6) rfl (by decide) rfl (Nat.le_of_ble_eq_true rfl) ?_
  intro p e s m below meth c S K hr hlk hsz h ls hl
  have hl : lv_has ls 2 [(0, .ref (E.2.1 49)), (1, .int i)] := hl
  have hinX6 : ∀ w ∈ u_ws RX6 TX6 18, w ∈ wsX6_disk := by decide +kernel
  have hf_38 := S.2.2.2.2 (.fieldLink RX6 38 "CrashVaultModel" "thrown" "I") (by decide +kernel)
  have hf_7 := S.2.2.2.2 (.fieldLink RX6 7 "CrashVaultModel" "disk" "[I") (by decide +kernel)
  refine lv_aload_n S.1 S.2.1 dX6_disk_0 rfl (lv_at hl 0 rfl) ?_
  refine lv_iload_n S.1 S.2.1 dX6_disk_1 rfl (lv_at hl 1 rfl) ?_
  refine lv_if_lt (tgt := 12) S.1 S.2.1 dX6_disk_2 (by decide) (fun c51 => ?_) (fun c51 => ?_)
  · refine lv_iconst (v := 1) S.1 S.2.1 dX6_disk_12 (by decide) ?_
    refine lv_goto (tgt := 17) S.1 S.2.1 dX6_disk_13 (by decide) ?_
    refine cv_pf (ci := 6) (C := RX6) (T := TX6) (N := 18) (x := 1) S K h 49 rfl hinX6 rfl rfl 0 cv_pok_X6_0 hf_38 rfl rfl rfl (Nat.le_of_ble_eq_true rfl) rfl dX6_disk_17 (fun σ52 H locs eσ52 h => ?_)
    refine lv_aload_n S.1 S.2.1 dX6_disk_20 rfl (lv_at hl 0 rfl) ?_
    refine cv_gf (ci := 6) (C := RX6) (T := TX6) (N := 18) (v := .int (σ52.2.2.1 49 0)) S K h 49 rfl hinX6 rfl rfl 0 (by decide) hf_38 rfl rfl dX6_disk_21 ?_
    refine cv_rei (show (σ52.2.2.1 49 0) = 1 from by rw [eσ52, cv_F3, if_pos rfl, if_pos rfl]) ?_
    refine lv_if_ne (tgt := 36) S.1 S.2.1 dX6_disk_24 (by decide) (fun c53 => ?_) (fun c53 => ?_)
    · refine lv_iconst (v := 0) S.1 S.2.1 dX6_disk_36 (by decide) ?_
      exact cv_iret S hr hlk hsz h (Or.inl ⟨Or.inl c51, eσ52⟩) dX6_disk_37
    · exact absurd c53 (by decide)
  · refine lv_iload_n S.1 S.2.1 dX6_disk_5 rfl (lv_at hl 1 rfl) ?_
    refine lv_sipush (v := 599) S.1 S.2.1 dX6_disk_6 (by decide) ?_
    refine lv_icmp_le (tgt := 16) S.1 S.2.1 dX6_disk_9 (by decide) (fun c54 => ?_) (fun c54 => ?_)
    · refine lv_iconst (v := 0) S.1 S.2.1 dX6_disk_16 (by decide) ?_
      refine cv_pf (ci := 6) (C := RX6) (T := TX6) (N := 18) (x := 0) S K h 49 rfl hinX6 rfl rfl 0 cv_pok_X6_0 hf_38 rfl rfl rfl (Nat.le_of_ble_eq_true rfl) rfl dX6_disk_17 (fun σ55 H locs eσ55 h => ?_)
      refine lv_aload_n S.1 S.2.1 dX6_disk_20 rfl (lv_at hl 0 rfl) ?_
      refine cv_gf (ci := 6) (C := RX6) (T := TX6) (N := 18) (v := .int (σ55.2.2.1 49 0)) S K h 49 rfl hinX6 rfl rfl 0 (by decide) hf_38 rfl rfl dX6_disk_21 ?_
      refine cv_rei (show (σ55.2.2.1 49 0) = 0 from by rw [eσ55, cv_F3, if_pos rfl, if_pos rfl]) ?_
      refine lv_if_ne (tgt := 36) S.1 S.2.1 dX6_disk_24 (by decide) (fun c56 => ?_) (fun c56 => ?_)
      · exact absurd c56 (by decide)
      · obtain ⟨j, hj, hij⟩ : ∃ j : Nat, j < 600 ∧ i = nI j := by
          rcases pk_ix i (show 600 < 2 ^ 31 by decide) with q | q | q
          · exact absurd q c51
          · exact absurd (Int32.le_trans q c54) (by decide)
          · exact q
        refine lv_aload_n S.1 S.2.1 dX6_disk_27 rfl (lv_at hl 0 rfl) ?_
        refine cv_gf (ci := 6) (C := RX6) (T := TX6) (N := 18) (v := .ref (E.2.1 50)) S K h 49 rfl hinX6 rfl rfl 1 (by decide) hf_7 rfl rfl dX6_disk_28 ?_
        refine lv_iload_n S.1 S.2.1 dX6_disk_31 rfl (lv_at hl 1 rfl) ?_
        refine cv_iald S K h 50 rfl (n := 600) rfl j hij (by omega) dX6_disk_32 ?_
        refine lv_goto (tgt := 37) S.1 S.2.1 dX6_disk_33 (by decide) ?_
        exact cv_iret S hr hlk hsz h (Or.inr ⟨eσ55, j, hj, hij, by rw [eσ55]; rfl⟩) dX6_disk_37
    · refine lv_iconst (v := 1) S.1 S.2.1 dX6_disk_12 (by decide) ?_
      refine lv_goto (tgt := 17) S.1 S.2.1 dX6_disk_13 (by decide) ?_
      refine cv_pf (ci := 6) (C := RX6) (T := TX6) (N := 18) (x := 1) S K h 49 rfl hinX6 rfl rfl 0 cv_pok_X6_0 hf_38 rfl rfl rfl (Nat.le_of_ble_eq_true rfl) rfl dX6_disk_17 (fun σ57 H locs eσ57 h => ?_)
      refine lv_aload_n S.1 S.2.1 dX6_disk_20 rfl (lv_at hl 0 rfl) ?_
      refine cv_gf (ci := 6) (C := RX6) (T := TX6) (N := 18) (v := .int (σ57.2.2.1 49 0)) S K h 49 rfl hinX6 rfl rfl 0 (by decide) hf_38 rfl rfl dX6_disk_21 ?_
      refine cv_rei (show (σ57.2.2.1 49 0) = 1 from by rw [eσ57, cv_F3, if_pos rfl, if_pos rfl]) ?_
      refine lv_if_ne (tgt := 36) S.1 S.2.1 dX6_disk_24 (by decide) (fun c58 => ?_) (fun c58 => ?_)
      · refine lv_iconst (v := 0) S.1 S.2.1 dX6_disk_36 (by decide) ?_
        exact cv_iret S hr hlk hsz h (Or.inl ⟨Or.inr (disk_ge c54), eσ57⟩) dX6_disk_37
      · exact absurd c58 (by decide)

set_option maxHeartbeats 4000000 in
set_option maxRecDepth 100000 in
theorem m_spoil (l : Launch) (E : cv_E) (σ : cv_S) (i bits : Int32) : cv_Mv l E yX6_spoil wsX6_spoil (cv_R 1) [.ref (E.2.1 49), .int i, .int bits] σ (fun τ => ((i < 0 ∨ nI 600 ≤ i) ∧ τ = cv_uF σ 49 0 1) ∨ (∃ j, j < 600 ∧ i = nI j ∧ τ = cv_uI (cv_uF σ 49 0 0) 50 (upd (σ.1 50) j (σ.1 50 j ^^^ (bits &&& 255))))) := by
  intro sz
  refine cv_in (ws := wsX6_spoil) (cc := cX6_spoil) (maxL := 3) (ret := none) (own := RX6) rfl (by decide) rfl (Nat.le_of_ble_eq_true rfl) ?_
  intro p e s m below meth c S K hr hlk hsz h ls hl
  have hl : lv_has ls 3 [(0, .ref (E.2.1 49)), (1, .int i), (2, .int bits)] := hl
  have hinX6 : ∀ w ∈ u_ws RX6 TX6 18, w ∈ wsX6_spoil := by decide +kernel
  have hf_38 := S.2.2.2.2 (.fieldLink RX6 38 "CrashVaultModel" "thrown" "I") (by decide +kernel)
  have hf_7 := S.2.2.2.2 (.fieldLink RX6 7 "CrashVaultModel" "disk" "[I") (by decide +kernel)
  refine lv_aload_n S.1 S.2.1 dX6_spoil_0 rfl (lv_at hl 0 rfl) ?_
  refine lv_iload_n S.1 S.2.1 dX6_spoil_1 rfl (lv_at hl 1 rfl) ?_
  refine lv_if_lt (tgt := 12) S.1 S.2.1 dX6_spoil_2 (by decide) (fun c59 => ?_) (fun c59 => ?_)
  · refine lv_iconst (v := 1) S.1 S.2.1 dX6_spoil_12 (by decide) ?_
    refine lv_goto (tgt := 17) S.1 S.2.1 dX6_spoil_13 (by decide) ?_
    refine cv_pf (ci := 6) (C := RX6) (T := TX6) (N := 18) (x := 1) S K h 49 rfl hinX6 rfl rfl 0 cv_pok_X6_0 hf_38 rfl rfl rfl (Nat.le_of_ble_eq_true rfl) rfl dX6_spoil_17 (fun σ60 H locs eσ60 h => ?_)
    refine lv_aload_n S.1 S.2.1 dX6_spoil_20 rfl (lv_at hl 0 rfl) ?_
    refine cv_gf (ci := 6) (C := RX6) (T := TX6) (N := 18) (v := .int (σ60.2.2.1 49 0)) S K h 49 rfl hinX6 rfl rfl 0 (by decide) hf_38 rfl rfl dX6_spoil_21 ?_
    refine cv_rei (show (σ60.2.2.1 49 0) = 1 from by rw [eσ60, cv_F3, if_pos rfl, if_pos rfl]) ?_
    refine lv_if_ne (tgt := 45) S.1 S.2.1 dX6_spoil_24 (by decide) (fun c61 => ?_) (fun c61 => ?_)
    · exact cv_vret S hr hlk hsz h (Or.inl ⟨Or.inl c59, eσ60⟩) dX6_spoil_45
    · exact absurd c61 (by decide)
  · refine lv_iload_n S.1 S.2.1 dX6_spoil_5 rfl (lv_at hl 1 rfl) ?_
    refine lv_sipush (v := 599) S.1 S.2.1 dX6_spoil_6 (by decide) ?_
    refine lv_icmp_le (tgt := 16) S.1 S.2.1 dX6_spoil_9 (by decide) (fun c62 => ?_) (fun c62 => ?_)
    · refine lv_iconst (v := 0) S.1 S.2.1 dX6_spoil_16 (by decide) ?_
      refine cv_pf (ci := 6) (C := RX6) (T := TX6) (N := 18) (x := 0) S K h 49 rfl hinX6 rfl rfl 0 cv_pok_X6_0 hf_38 rfl rfl rfl (Nat.le_of_ble_eq_true rfl) rfl dX6_spoil_17 (fun σ63 H locs eσ63 h => ?_)
      refine lv_aload_n S.1 S.2.1 dX6_spoil_20 rfl (lv_at hl 0 rfl) ?_
      refine cv_gf (ci := 6) (C := RX6) (T := TX6) (N := 18) (v := .int (σ63.2.2.1 49 0)) S K h 49 rfl hinX6 rfl rfl 0 (by decide) hf_38 rfl rfl dX6_spoil_21 ?_
      refine cv_rei (show (σ63.2.2.1 49 0) = 0 from by rw [eσ63, cv_F3, if_pos rfl, if_pos rfl]) ?_
      refine lv_if_ne (tgt := 45) S.1 S.2.1 dX6_spoil_24 (by decide) (fun c64 => ?_) (fun c64 => ?_)
      · exact absurd c64 (by decide)
      · obtain ⟨j, hj, hij⟩ : ∃ j : Nat, j < 600 ∧ i = nI j := by
          rcases pk_ix i (show 600 < 2 ^ 31 by decide) with q | q | q
          · exact absurd q c59
          · exact absurd (Int32.le_trans q c62) (by decide)
          · exact q
        refine lv_aload_n S.1 S.2.1 dX6_spoil_27 rfl (lv_at hl 0 rfl) ?_
        refine cv_gf (ci := 6) (C := RX6) (T := TX6) (N := 18) (v := .ref (E.2.1 50)) S K h 49 rfl hinX6 rfl rfl 1 (by decide) hf_7 rfl rfl dX6_spoil_28 ?_
        refine lv_iload_n S.1 S.2.1 dX6_spoil_31 rfl (lv_at hl 1 rfl) ?_
        refine lv_aload_n S.1 S.2.1 dX6_spoil_32 rfl (lv_at hl 0 rfl) ?_
        refine cv_gf (ci := 6) (C := RX6) (T := TX6) (N := 18) (v := .ref (E.2.1 50)) S K h 49 rfl hinX6 rfl rfl 1 (by decide) hf_7 rfl rfl dX6_spoil_33 ?_
        refine lv_iload_n S.1 S.2.1 dX6_spoil_36 rfl (lv_at hl 1 rfl) ?_
        refine cv_iald S K h 50 rfl (n := 600) rfl j hij (by omega) dX6_spoil_37 ?_
        refine lv_iload_n S.1 S.2.1 dX6_spoil_38 rfl (lv_at hl 2 rfl) ?_
        refine lv_sipush (v := 255) S.1 S.2.1 dX6_spoil_39 (by decide) ?_
        refine lv_iand S.1 S.2.1 dX6_spoil_42 ?_
        refine lv_ixor S.1 S.2.1 dX6_spoil_43 ?_
        refine lv_topi (fun dx edx => ?_)
        refine cv_iast (x := dx) S K h 50 rfl (n := 600) rfl j hij (by omega) dX6_spoil_44 (fun σ65 H locs eσ65 h => ?_)
        exact cv_vret S hr hlk hsz h (Or.inr ⟨j, hj, hij, by rw [eσ65, edx, eσ63]; rfl⟩) dX6_spoil_45
    · refine lv_iconst (v := 1) S.1 S.2.1 dX6_spoil_12 (by decide) ?_
      refine lv_goto (tgt := 17) S.1 S.2.1 dX6_spoil_13 (by decide) ?_
      refine cv_pf (ci := 6) (C := RX6) (T := TX6) (N := 18) (x := 1) S K h 49 rfl hinX6 rfl rfl 0 cv_pok_X6_0 hf_38 rfl rfl rfl (Nat.le_of_ble_eq_true rfl) rfl dX6_spoil_17 (fun σ66 H locs eσ66 h => ?_)
      refine lv_aload_n S.1 S.2.1 dX6_spoil_20 rfl (lv_at hl 0 rfl) ?_
      refine cv_gf (ci := 6) (C := RX6) (T := TX6) (N := 18) (v := .int (σ66.2.2.1 49 0)) S K h 49 rfl hinX6 rfl rfl 0 (by decide) hf_38 rfl rfl dX6_spoil_21 ?_
      refine cv_rei (show (σ66.2.2.1 49 0) = 1 from by rw [eσ66, cv_F3, if_pos rfl, if_pos rfl]) ?_
      refine lv_if_ne (tgt := 45) S.1 S.2.1 dX6_spoil_24 (by decide) (fun c67 => ?_) (fun c67 => ?_)
      · exact cv_vret S hr hlk hsz h (Or.inl ⟨Or.inr (disk_ge c62), eσ66⟩) dX6_spoil_45
      · exact absurd c67 (by decide)

theorem slot_ge {i : Int32} (h : ¬ i ≤ 1) : nI 2 ≤ i := by
  rcases pk_ix i (show 2 < 2 ^ 31 by decide) with q | q | ⟨j, hj, hij⟩
  · exact absurd (Int32.le_of_lt (Int32.lt_trans q (by decide))) h
  · exact q
  · exact absurd (by rw [hij]; exact nI_le (b := 1) (by omega) (by decide)) h

set_option maxHeartbeats 4000000 in
set_option maxRecDepth 100000 in
theorem m_isGood (l : Launch) (E : cv_E) (σ : cv_S) (dv : Nat → Nat) (hdv : by_R (σ.1 50) dv 600) (sl : Int32) (pw : Int64) : cv_Mi l E yX6_isGood wsX6_isGood (cv_R 8) [.ref (E.2.1 49), .int sl, .long pw] σ (fun r τ => ((sl < 0 ∨ nI 2 ≤ sl) ∧ τ = cv_uF σ 49 0 1) ∨ (cv_fr [54, 55, 56, 57, 58] (cv_uF σ 49 0 0) τ ∧ ∃ j, j < 2 ∧ sl = nI j ∧ ((r = 1 ∧ gd (fun q => dv (300 * j + q)) pw) ∨ (r = 0 ∧ ¬ gd (fun q => dv (300 * j + q)) pw)))) := by
  intro sz
  refine cv_in (ws := wsX6_isGood) (cc := cX6_isGood) (maxL := 4) (ret := (some .boolean)) (own := RX6) rfl (by decide) rfl (Nat.le_of_ble_eq_true rfl) ?_
  intro p e s m below meth c S K hr hlk hsz h ls hl
  have hl : lv_has ls 4 [(0, .ref (E.2.1 49)), (1, .int sl), (2, .long pw)] := hl
  have hinX6 : ∀ w ∈ u_ws RX6 TX6 18, w ∈ wsX6_isGood := by decide +kernel
  have hf_38 := S.2.2.2.2 (.fieldLink RX6 38 "CrashVaultModel" "thrown" "I") (by decide +kernel)
  refine lv_aload_n S.1 S.2.1 dX6_isGood_0 rfl (lv_at hl 0 rfl) ?_
  refine lv_iload_n S.1 S.2.1 dX6_isGood_1 rfl (lv_at hl 1 rfl) ?_
  refine lv_if_lt (tgt := 10) S.1 S.2.1 dX6_isGood_2 (by decide) (fun c68 => ?_) (fun c68 => ?_)
  · refine lv_iconst (v := 1) S.1 S.2.1 dX6_isGood_10 (by decide) ?_
    refine lv_goto (tgt := 15) S.1 S.2.1 dX6_isGood_11 (by decide) ?_
    refine cv_pf (ci := 6) (C := RX6) (T := TX6) (N := 18) (x := 1) S K h 49 rfl hinX6 rfl rfl 0 cv_pok_X6_0 hf_38 rfl rfl rfl (Nat.le_of_ble_eq_true rfl) rfl dX6_isGood_15 (fun σ69 H locs eσ69 h => ?_)
    refine lv_aload_n S.1 S.2.1 dX6_isGood_18 rfl (lv_at hl 0 rfl) ?_
    refine cv_gf (ci := 6) (C := RX6) (T := TX6) (N := 18) (v := .int (σ69.2.2.1 49 0)) S K h 49 rfl hinX6 rfl rfl 0 (by decide) hf_38 rfl rfl dX6_isGood_19 ?_
    refine cv_rei (show (σ69.2.2.1 49 0) = 1 from by rw [eσ69, cv_F3, if_pos rfl, if_pos rfl]) ?_
    refine lv_if_ne (tgt := 38) S.1 S.2.1 dX6_isGood_22 (by decide) (fun c70 => ?_) (fun c70 => ?_)
    · refine lv_iconst (v := 0) S.1 S.2.1 dX6_isGood_38 (by decide) ?_
      exact cv_zret S hr (by decide) hlk hsz h (Or.inl ⟨Or.inl c68, eσ69⟩) dX6_isGood_39
    · exact absurd c70 (by decide)
  · refine lv_iload_n S.1 S.2.1 dX6_isGood_5 rfl (lv_at hl 1 rfl) ?_
    refine lv_iconst (v := 1) S.1 S.2.1 dX6_isGood_6 (by decide) ?_
    refine lv_icmp_le (tgt := 14) S.1 S.2.1 dX6_isGood_7 (by decide) (fun c71 => ?_) (fun c71 => ?_)
    · refine lv_iconst (v := 0) S.1 S.2.1 dX6_isGood_14 (by decide) ?_
      refine cv_pf (ci := 6) (C := RX6) (T := TX6) (N := 18) (x := 0) S K h 49 rfl hinX6 rfl rfl 0 cv_pok_X6_0 hf_38 rfl rfl rfl (Nat.le_of_ble_eq_true rfl) rfl dX6_isGood_15 (fun σ72 H locs eσ72 h => ?_)
      refine lv_aload_n S.1 S.2.1 dX6_isGood_18 rfl (lv_at hl 0 rfl) ?_
      refine cv_gf (ci := 6) (C := RX6) (T := TX6) (N := 18) (v := .int (σ72.2.2.1 49 0)) S K h 49 rfl hinX6 rfl rfl 0 (by decide) hf_38 rfl rfl dX6_isGood_19 ?_
      refine cv_rei (show (σ72.2.2.1 49 0) = 0 from by rw [eσ72, cv_F3, if_pos rfl, if_pos rfl]) ?_
      refine lv_if_ne (tgt := 38) S.1 S.2.1 dX6_isGood_22 (by decide) (fun c73 => ?_) (fun c73 => ?_)
      · exact absurd c73 (by decide)
      · obtain ⟨j, hj, hij⟩ : ∃ j : Nat, j < 2 ∧ sl = nI j := by
          rcases pk_ix sl (show 2 < 2 ^ 31 by decide) with q | q | q
          · exact absurd q c68
          · exact absurd (Int32.le_trans q c71) (by decide)
          · exact q
        subst hij
        refine lv_aload_n S.1 S.2.1 dX6_isGood_25 rfl (lv_at hl 0 rfl) ?_
        refine lv_iload_n S.1 S.2.1 dX6_isGood_26 rfl (lv_at hl 1 rfl) ?_
        refine lv_lload_n S.1 S.2.1 dX6_isGood_27 rfl (lv_at hl 2 rfl) ?_
        refine cv_calli (ci := 6) (C := RX6) (T := TX6) (N := 18) S K h hl.1 rfl rfl rfl (m_take l E σ72 j (by omega) (fun q => dv (300 * j + q)) (fun q hq => by rw [eσ72]; exact hdv _ (by omega)) pw) (cwV 2 S.2.2.2.2 gX6_isGood_X6_take rfl rfl rfl (by decide +kernel) ⟨Nat.le_of_ble_eq_true rfl, Nat.le_of_ble_eq_true rfl⟩) rfl rfl (Nat.le_of_ble_eq_true rfl) ⟨Nat.zero_le _, Nat.zero_le _⟩ dX6_isGood_28 (fun rt σ74 H locs ht h => ?_)
        rw [eσ72] at ht
        rcases ht.2.2 with ⟨q1, q2, _⟩ | ⟨q1, q2⟩
        · subst q1
          refine lv_if_eq (tgt := 38) S.1 S.2.1 dX6_isGood_31 (by decide) (fun c75 => ?_) (fun c75 => ?_)
          · exact absurd c75 (by decide)
          · refine lv_iconst (v := 1) S.1 S.2.1 dX6_isGood_34 (by decide) ?_
            refine lv_goto (tgt := 39) S.1 S.2.1 dX6_isGood_35 (by decide) ?_
            exact cv_zret S hr (by decide) hlk hsz h (Or.inr ⟨ht.1, j, hj, rfl, Or.inl ⟨rfl, q2⟩⟩) dX6_isGood_39
        · subst q1
          refine lv_if_eq (tgt := 38) S.1 S.2.1 dX6_isGood_31 (by decide) (fun c76 => ?_) (fun c76 => ?_)
          · refine lv_iconst (v := 0) S.1 S.2.1 dX6_isGood_38 (by decide) ?_
            exact cv_zret S hr (by decide) hlk hsz h (Or.inr ⟨ht.1, j, hj, rfl, Or.inr ⟨rfl, q2⟩⟩) dX6_isGood_39
          · exact absurd c76 (by decide)
    · refine lv_iconst (v := 1) S.1 S.2.1 dX6_isGood_10 (by decide) ?_
      refine lv_goto (tgt := 15) S.1 S.2.1 dX6_isGood_11 (by decide) ?_
      refine cv_pf (ci := 6) (C := RX6) (T := TX6) (N := 18) (x := 1) S K h 49 rfl hinX6 rfl rfl 0 cv_pok_X6_0 hf_38 rfl rfl rfl (Nat.le_of_ble_eq_true rfl) rfl dX6_isGood_15 (fun σ77 H locs eσ77 h => ?_)
      refine lv_aload_n S.1 S.2.1 dX6_isGood_18 rfl (lv_at hl 0 rfl) ?_
      refine cv_gf (ci := 6) (C := RX6) (T := TX6) (N := 18) (v := .int (σ77.2.2.1 49 0)) S K h 49 rfl hinX6 rfl rfl 0 (by decide) hf_38 rfl rfl dX6_isGood_19 ?_
      refine cv_rei (show (σ77.2.2.1 49 0) = 1 from by rw [eσ77, cv_F3, if_pos rfl, if_pos rfl]) ?_
      refine lv_if_ne (tgt := 38) S.1 S.2.1 dX6_isGood_22 (by decide) (fun c78 => ?_) (fun c78 => ?_)
      · refine lv_iconst (v := 0) S.1 S.2.1 dX6_isGood_38 (by decide) ?_
        exact cv_zret S hr (by decide) hlk hsz h (Or.inl ⟨Or.inr (slot_ge c71), eσ77⟩) dX6_isGood_39
      · exact absurd c78 (by decide)

set_option maxHeartbeats 4000000 in
set_option maxRecDepth 100000 in
theorem m_value (l : Launch) (E : cv_E) (σ : cv_S) (hop : σ.2.2.1 49 2 = 0 ∨ σ.2.2.1 49 2 = 1) (cnt : Nat) (N : Nat → Int64) (O : Nat → Nat) (V : Nat → Nat → Int64) (hc8 : cnt ≤ 8) (hct : σ.2.2.1 49 8 = nI cnt) (hR0 : σ.2.2.1 49 2 = 1 → em_R σ cnt N O V) (nm : Int64) (bk : Int32) : cv_Ml l E yX6_value wsX6_value (cv_R 2) [.ref (E.2.1 49), .long nm, .int bk] σ (fun r τ => (σ.2.2.1 49 2 = 0 ∧ τ = cv_uF σ 49 0 1) ∨ (σ.2.2.1 49 2 = 1 ∧ (bk < 0 ∨ 2 < bk) ∧ τ = cv_uF σ 49 0 2) ∨ (σ.2.2.1 49 2 = 1 ∧ ¬ bk < 0 ∧ ¬ 2 < bk ∧ ((∃ a, fdN N cnt nm a) ∨ (∃ a, fdY N cnt nm a ∧ nI (O a) < bk)) ∧ τ = cv_uF σ 49 0 3) ∨ (σ.2.2.1 49 2 = 1 ∧ τ = cv_uF σ 49 0 0 ∧ ∃ a k, fdY N cnt nm a ∧ k ≤ O a ∧ bk = nI k ∧ r = V a k)) := by
  intro sz
  refine cv_in (ws := wsX6_value) (cc := cX6_value) (maxL := 5) (ret := (some .long)) (own := RX6) rfl (by decide) rfl (Nat.le_of_ble_eq_true rfl) ?_
  intro p e s m below meth c S K hr hlk hsz h ls hl
  have hl : lv_has ls 5 [(0, .ref (E.2.1 49)), (1, .long nm), (3, .int bk)] := hl
  have hinX6 : ∀ w ∈ u_ws RX6 TX6 18, w ∈ wsX6_value := by decide +kernel
  have hf_147 := S.2.2.2.2 (.fieldLink RX6 147 "CrashVaultModel" "open" "Z") (by decide +kernel)
  have hf_17 := S.2.2.2.2 (.fieldLink RX6 17 "CrashVaultModel" "olds" "[I") (by decide +kernel)
  have hf_20 := S.2.2.2.2 (.fieldLink RX6 20 "CrashVaultModel" "values" "[J") (by decide +kernel)
  have hf_38 := S.2.2.2.2 (.fieldLink RX6 38 "CrashVaultModel" "thrown" "I") (by decide +kernel)
  refine lv_aload_n S.1 S.2.1 dX6_value_0 rfl (lv_at hl 0 rfl) ?_
  refine lv_lload_n S.1 S.2.1 dX6_value_1 rfl (lv_at hl 1 rfl) ?_
  refine cv_calli (ci := 6) (C := RX6) (T := TX6) (N := 18) S K h hl.1 rfl rfl rfl (m_find l E σ cnt hc8 hct nm) (cwV 1 S.2.2.2.2 gX6_value_X6_find rfl rfl rfl (by decide +kernel) ⟨Nat.le_of_ble_eq_true rfl, Nat.le_of_ble_eq_true rfl⟩) rfl rfl (Nat.le_of_ble_eq_true rfl) ⟨Nat.zero_le _, Nat.zero_le _⟩ dX6_value_2 (fun rf σ79 H locs ⟨hfd, hs9⟩ h => ?_)
  rw [hs9] at h
  refine lv_istore (lv' := [(4, .int rf), (0, .ref (E.2.1 49)), (1, .long nm), (3, .int bk)]) S.1 S.2.1 dX6_value_5 hl (by decide) rfl (fun ls hl => ?_)
  obtain ⟨i0, f1, f2, f3, f4⟩ := hfd
  rcases hop with ho | ho
  · refine lv_aload_n S.1 S.2.1 dX6_value_7 rfl (lv_at hl 1 rfl) ?_
    refine lv_aload_n S.1 S.2.1 dX6_value_8 rfl (lv_at hl 1 rfl) ?_
    refine cv_gf (ci := 6) (C := RX6) (T := TX6) (N := 18) (v := .int (σ.2.2.1 49 2)) S K h 49 rfl hinX6 rfl rfl 2 (by decide) hf_147 rfl rfl dX6_value_9 ?_
    refine cv_rei (show (σ.2.2.1 49 2) = 0 from ho) ?_
    refine lv_if_ne (tgt := 19) S.1 S.2.1 dX6_value_12 (by decide) (fun c80 => ?_) (fun c80 => ?_)
    · exact absurd c80 (by decide)
    · refine lv_iconst (v := 1) S.1 S.2.1 dX6_value_15 (by decide) ?_
      refine lv_goto (tgt := 53) S.1 S.2.1 dX6_value_16 (by decide) ?_
      refine cv_pf (ci := 6) (C := RX6) (T := TX6) (N := 18) (x := 1) S K h 49 rfl hinX6 rfl rfl 0 cv_pok_X6_0 hf_38 rfl rfl rfl (Nat.le_of_ble_eq_true rfl) rfl dX6_value_53 (fun σ81 H locs eσ81 h => ?_)
      refine lv_aload_n S.1 S.2.1 dX6_value_56 rfl (lv_at hl 1 rfl) ?_
      refine cv_gf (ci := 6) (C := RX6) (T := TX6) (N := 18) (v := .int (σ81.2.2.1 49 0)) S K h 49 rfl hinX6 rfl rfl 0 (by decide) hf_38 rfl rfl dX6_value_57 ?_
      refine cv_rei (show (σ81.2.2.1 49 0) = 1 from by rw [eσ81, cv_F3, if_pos rfl, if_pos rfl]) ?_
      refine lv_if_ne (tgt := 77) S.1 S.2.1 dX6_value_60 (by decide) (fun c82 => ?_) (fun c82 => ?_)
      · refine lv_lconst (v := 0) S.1 S.2.1 dX6_value_77 (by decide) ?_
        exact cv_lret S hr hlk hsz h (Or.inl ⟨ho, eσ81⟩) dX6_value_78
      · exact absurd c82 (by decide)
  · refine lv_aload_n S.1 S.2.1 dX6_value_7 rfl (lv_at hl 1 rfl) ?_
    refine lv_aload_n S.1 S.2.1 dX6_value_8 rfl (lv_at hl 1 rfl) ?_
    refine cv_gf (ci := 6) (C := RX6) (T := TX6) (N := 18) (v := .int (σ.2.2.1 49 2)) S K h 49 rfl hinX6 rfl rfl 2 (by decide) hf_147 rfl rfl dX6_value_9 ?_
    refine cv_rei (show (σ.2.2.1 49 2) = 1 from ho) ?_
    refine lv_if_ne (tgt := 19) S.1 S.2.1 dX6_value_12 (by decide) (fun c83 => ?_) (fun c83 => ?_)
    · refine lv_iload_n S.1 S.2.1 dX6_value_19 rfl (lv_at hl 3 rfl) ?_
      refine lv_if_lt (tgt := 28) S.1 S.2.1 dX6_value_20 (by decide) (fun c84 => ?_) (fun c84 => ?_)
      · refine lv_iconst (v := 2) S.1 S.2.1 dX6_value_28 (by decide) ?_
        refine lv_goto (tgt := 53) S.1 S.2.1 dX6_value_29 (by decide) ?_
        refine cv_pf (ci := 6) (C := RX6) (T := TX6) (N := 18) (x := 2) S K h 49 rfl hinX6 rfl rfl 0 cv_pok_X6_0 hf_38 rfl rfl rfl (Nat.le_of_ble_eq_true rfl) rfl dX6_value_53 (fun σ85 H locs eσ85 h => ?_)
        refine lv_aload_n S.1 S.2.1 dX6_value_56 rfl (lv_at hl 1 rfl) ?_
        refine cv_gf (ci := 6) (C := RX6) (T := TX6) (N := 18) (v := .int (σ85.2.2.1 49 0)) S K h 49 rfl hinX6 rfl rfl 0 (by decide) hf_38 rfl rfl dX6_value_57 ?_
        refine cv_rei (show (σ85.2.2.1 49 0) = 2 from by rw [eσ85, cv_F3, if_pos rfl, if_pos rfl]) ?_
        refine lv_if_ne (tgt := 77) S.1 S.2.1 dX6_value_60 (by decide) (fun c86 => ?_) (fun c86 => ?_)
        · refine lv_lconst (v := 0) S.1 S.2.1 dX6_value_77 (by decide) ?_
          exact cv_lret S hr hlk hsz h (Or.inr (Or.inl ⟨ho, Or.inl c84, eσ85⟩)) dX6_value_78
        · exact absurd c86 (by decide)
      · refine lv_iload_n S.1 S.2.1 dX6_value_23 rfl (lv_at hl 3 rfl) ?_
        refine lv_iconst (v := 2) S.1 S.2.1 dX6_value_24 (by decide) ?_
        refine lv_icmp_le (tgt := 32) S.1 S.2.1 dX6_value_25 (by decide) (fun c87 => ?_) (fun c87 => ?_)
        · obtain ⟨q1, q2, q3⟩ := hR0 ho
          have hN : ∀ j, j < cnt → σ.2.1 51 j = N j := fun j hj => (q3 j hj).1
          rcases f4 with ⟨j1, j2, j3⟩ | ⟨j1, j3⟩
          · subst j3
            have hY : fdY N cnt nm i0 := ⟨j1, (hN i0 j1).symm.trans j2, fun j hj => by rw [← hN j (by omega)]; exact f2 j hj⟩
            obtain ⟨m1, m2, m3, m4⟩ := q3 i0 j1
            refine lv_iload S.1 S.2.1 dX6_value_32 (lv_at hl 0 rfl) ?_
            refine lv_if_lt (tgt := 48) S.1 S.2.1 dX6_value_34 (by decide) (fun d1 => ?_) (fun d1 => ?_)
            · exact absurd d1 (nI_pos (by omega))
            · refine lv_iload_n S.1 S.2.1 dX6_value_37 rfl (lv_at hl 3 rfl) ?_
              refine lv_aload_n S.1 S.2.1 dX6_value_38 rfl (lv_at hl 1 rfl) ?_
              refine cv_gf (ci := 6) (C := RX6) (T := TX6) (N := 18) (v := .ref (E.2.1 52)) S K h 49 rfl hinX6 rfl rfl 10 (by decide) hf_17 rfl rfl dX6_value_39 ?_
              refine lv_iload S.1 S.2.1 dX6_value_42 (lv_at hl 0 rfl) ?_
              refine cv_iald S K h 52 rfl (n := 8) rfl i0 rfl (by omega) dX6_value_44 ?_
              refine cv_rei (show (σ.1 52 i0) = nI (O i0) from m2) ?_
              refine lv_icmp_le (tgt := 52) S.1 S.2.1 dX6_value_45 (by decide) (fun d2 => ?_) (fun d2 => ?_)
              · obtain ⟨k, hk, hbk⟩ : ∃ k : Nat, k ≤ O i0 ∧ bk = nI k := by
                  obtain ⟨k, hk, e⟩ := nI_of c84
                  exact ⟨k, (nI_leI hk (by omega)).mp (by rw [← e]; exact d2), e⟩
                subst hbk
                refine lv_iconst (v := 0) S.1 S.2.1 dX6_value_52 (by decide) ?_
                refine cv_pf (ci := 6) (C := RX6) (T := TX6) (N := 18) (x := 0) S K h 49 rfl hinX6 rfl rfl 0 cv_pok_X6_0 hf_38 rfl rfl rfl (Nat.le_of_ble_eq_true rfl) rfl dX6_value_53 (fun σ88 H locs eσ88 h => ?_)
                refine lv_aload_n S.1 S.2.1 dX6_value_56 rfl (lv_at hl 1 rfl) ?_
                refine cv_gf (ci := 6) (C := RX6) (T := TX6) (N := 18) (v := .int (σ88.2.2.1 49 0)) S K h 49 rfl hinX6 rfl rfl 0 (by decide) hf_38 rfl rfl dX6_value_57 ?_
                refine cv_rei (show (σ88.2.2.1 49 0) = 0 from by rw [eσ88, cv_F3, if_pos rfl, if_pos rfl]) ?_
                refine lv_if_ne (tgt := 77) S.1 S.2.1 dX6_value_60 (by decide) (fun d3 => ?_) (fun d3 => ?_)
                · exact absurd d3 (by decide)
                · refine lv_aload_n S.1 S.2.1 dX6_value_63 rfl (lv_at hl 1 rfl) ?_
                  refine cv_gf (ci := 6) (C := RX6) (T := TX6) (N := 18) (v := .ref (E.2.1 53)) S K h 49 rfl hinX6 rfl rfl 11 (by decide) hf_20 rfl rfl dX6_value_64 ?_
                  refine lv_iconst (v := 3) S.1 S.2.1 dX6_value_67 (by decide) ?_
                  refine lv_iload S.1 S.2.1 dX6_value_68 (lv_at hl 0 rfl) ?_
                  refine lv_imul S.1 S.2.1 dX6_value_70 ?_
                  refine cv_rei (show (3 * ((nI i0))) = nI (3 * i0) from pk_mul 3 i0) ?_
                  refine lv_iload_n S.1 S.2.1 dX6_value_71 rfl (lv_at hl 3 rfl) ?_
                  refine lv_iadd S.1 S.2.1 dX6_value_72 ?_
                  refine cv_rei (show (((nI (3 * i0))) + ((nI k))) = nI (3 * i0 + k) from nI_add _ _) ?_
                  refine cv_lald S K h 53 rfl (n := 24) rfl (3 * i0 + k) rfl (by omega) dX6_value_73 ?_
                  refine lv_goto (tgt := 78) S.1 S.2.1 dX6_value_74 (by decide) ?_
                  exact cv_lret S hr hlk hsz h (Or.inr (Or.inr (Or.inr ⟨ho, eσ88, i0, k, hY, hk, rfl, by rw [eσ88]; exact m4 k hk⟩))) dX6_value_78
              · refine lv_iconst (v := 3) S.1 S.2.1 dX6_value_48 (by decide) ?_
                refine lv_goto (tgt := 53) S.1 S.2.1 dX6_value_49 (by decide) ?_
                refine cv_pf (ci := 6) (C := RX6) (T := TX6) (N := 18) (x := 3) S K h 49 rfl hinX6 rfl rfl 0 cv_pok_X6_0 hf_38 rfl rfl rfl (Nat.le_of_ble_eq_true rfl) rfl dX6_value_53 (fun σ89 H locs eσ89 h => ?_)
                refine lv_aload_n S.1 S.2.1 dX6_value_56 rfl (lv_at hl 1 rfl) ?_
                refine cv_gf (ci := 6) (C := RX6) (T := TX6) (N := 18) (v := .int (σ89.2.2.1 49 0)) S K h 49 rfl hinX6 rfl rfl 0 (by decide) hf_38 rfl rfl dX6_value_57 ?_
                refine cv_rei (show (σ89.2.2.1 49 0) = 3 from by rw [eσ89, cv_F3, if_pos rfl, if_pos rfl]) ?_
                refine lv_if_ne (tgt := 77) S.1 S.2.1 dX6_value_60 (by decide) (fun c90 => ?_) (fun c90 => ?_)
                · refine lv_lconst (v := 0) S.1 S.2.1 dX6_value_77 (by decide) ?_
                  exact cv_lret S hr hlk hsz h (Or.inr (Or.inr (Or.inl ⟨ho, c84, fun q => absurd c87 (Int32.not_le.mpr q), Or.inr ⟨i0, hY, Int32.not_le.mp d2⟩, eσ89⟩))) dX6_value_78
                · exact absurd c90 (by decide)
          · have hneg := m1_neg i0 (by omega)
            rw [← j3] at hneg
            have hNf : fdN N cnt nm i0 := ⟨f1, fun j hj => by rw [← hN j (by omega)]; exact f2 j hj, fun q => ⟨by rw [← hN i0 q]; exact f3 q, by rw [← hN i0 q]; exact j1.resolve_left (by omega)⟩⟩
            refine lv_iload S.1 S.2.1 dX6_value_32 (lv_at hl 0 rfl) ?_
            refine lv_if_lt (tgt := 48) S.1 S.2.1 dX6_value_34 (by decide) (fun d1 => ?_) (fun d1 => ?_)
            · refine lv_iconst (v := 3) S.1 S.2.1 dX6_value_48 (by decide) ?_
              refine lv_goto (tgt := 53) S.1 S.2.1 dX6_value_49 (by decide) ?_
              refine cv_pf (ci := 6) (C := RX6) (T := TX6) (N := 18) (x := 3) S K h 49 rfl hinX6 rfl rfl 0 cv_pok_X6_0 hf_38 rfl rfl rfl (Nat.le_of_ble_eq_true rfl) rfl dX6_value_53 (fun σ91 H locs eσ91 h => ?_)
              refine lv_aload_n S.1 S.2.1 dX6_value_56 rfl (lv_at hl 1 rfl) ?_
              refine cv_gf (ci := 6) (C := RX6) (T := TX6) (N := 18) (v := .int (σ91.2.2.1 49 0)) S K h 49 rfl hinX6 rfl rfl 0 (by decide) hf_38 rfl rfl dX6_value_57 ?_
              refine cv_rei (show (σ91.2.2.1 49 0) = 3 from by rw [eσ91, cv_F3, if_pos rfl, if_pos rfl]) ?_
              refine lv_if_ne (tgt := 77) S.1 S.2.1 dX6_value_60 (by decide) (fun c92 => ?_) (fun c92 => ?_)
              · refine lv_lconst (v := 0) S.1 S.2.1 dX6_value_77 (by decide) ?_
                exact cv_lret S hr hlk hsz h (Or.inr (Or.inr (Or.inl ⟨ho, c84, fun q => absurd c87 (Int32.not_le.mpr q), Or.inl ⟨i0, hNf⟩, eσ91⟩))) dX6_value_78
              · exact absurd c92 (by decide)
            · exact absurd hneg d1
        · refine lv_iconst (v := 2) S.1 S.2.1 dX6_value_28 (by decide) ?_
          refine lv_goto (tgt := 53) S.1 S.2.1 dX6_value_29 (by decide) ?_
          refine cv_pf (ci := 6) (C := RX6) (T := TX6) (N := 18) (x := 2) S K h 49 rfl hinX6 rfl rfl 0 cv_pok_X6_0 hf_38 rfl rfl rfl (Nat.le_of_ble_eq_true rfl) rfl dX6_value_53 (fun σ93 H locs eσ93 h => ?_)
          refine lv_aload_n S.1 S.2.1 dX6_value_56 rfl (lv_at hl 1 rfl) ?_
          refine cv_gf (ci := 6) (C := RX6) (T := TX6) (N := 18) (v := .int (σ93.2.2.1 49 0)) S K h 49 rfl hinX6 rfl rfl 0 (by decide) hf_38 rfl rfl dX6_value_57 ?_
          refine cv_rei (show (σ93.2.2.1 49 0) = 2 from by rw [eσ93, cv_F3, if_pos rfl, if_pos rfl]) ?_
          refine lv_if_ne (tgt := 77) S.1 S.2.1 dX6_value_60 (by decide) (fun c94 => ?_) (fun c94 => ?_)
          · refine lv_lconst (v := 0) S.1 S.2.1 dX6_value_77 (by decide) ?_
            exact cv_lret S hr hlk hsz h (Or.inr (Or.inl ⟨ho, Or.inr (Int32.not_le.mp c87), eσ93⟩)) dX6_value_78
          · exact absurd c94 (by decide)
    · exact absurd c83 (by decide)
