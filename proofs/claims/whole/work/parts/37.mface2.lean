/-! 37: the reference: isRounds, renew, remove -/
def okR (x : Int32) : Prop := ∃ k : Nat, 1 ≤ k ∧ k ≤ 40 ∧ x = nI k
theorem okR_of {x : Int32} (h1 : ¬ x ≤ 0) (h2 : ¬ 41 ≤ x) : okR x := by
  rcases pk_ix x (show 41 < 2 ^ 31 by decide) with q | q | ⟨j, hj, hij⟩
  · exact absurd (Int32.le_of_lt q) h1
  · exact absurd q h2
  · refine ⟨j, Nat.pos_of_ne_zero (fun q => h1 (by rw [hij, q]; decide)), by omega, hij⟩
theorem okR_no {x : Int32} (h : x ≤ 0 ∨ 41 ≤ x) : ¬ okR x := by
  rintro ⟨k, h1, h2, rfl⟩
  rcases h with q | q
  · exact absurd q (nI_nle (by omega) (by omega))
  · exact absurd q (nI_ge (b := 41) (by omega) (by decide))

set_option maxHeartbeats 4000000 in
set_option maxRecDepth 100000 in
theorem m_isRounds (l : Launch) (E : cv_E) (σ : cv_S) (x : Int32) : cv_Mi l E yX6_isRounds wsX6_isRounds (cv_R 1) [.int x] σ (fun r τ => ((r = 1 ∧ okR x) ∨ (r = 0 ∧ ¬ okR x)) ∧ τ = σ) := by
  intro sz
  refine cv_in (ws := wsX6_isRounds) (cc := cX6_isRounds) (maxL := 1) (ret := (some .boolean)) (own := RX6) rfl (by decide) rfl (Nat.le_of_ble_eq_true rfl) ?_
  intro p e s m below meth c S K hr hlk hsz h ls hl
  have hl : lv_has ls 1 [(0, .int x)] := hl
  refine lv_iload_n S.1 S.2.1 dX6_isRounds_0 rfl (lv_at hl 0 rfl) ?_
  refine lv_if_le (tgt := 14) S.1 S.2.1 dX6_isRounds_1 (by decide) (fun c95 => ?_) (fun c95 => ?_)
  · refine lv_iconst (v := 0) S.1 S.2.1 dX6_isRounds_14 (by decide) ?_
    exact cv_zret S hr (by decide) hlk hsz h ⟨Or.inr ⟨rfl, okR_no (Or.inl c95)⟩, rfl⟩ dX6_isRounds_15
  · refine lv_iload_n S.1 S.2.1 dX6_isRounds_4 rfl (lv_at hl 0 rfl) ?_
    refine lv_bipush (v := 41) S.1 S.2.1 dX6_isRounds_5 (by decide) ?_
    refine lv_icmp_ge (tgt := 14) S.1 S.2.1 dX6_isRounds_7 (by decide) (fun c96 => ?_) (fun c96 => ?_)
    · refine lv_iconst (v := 0) S.1 S.2.1 dX6_isRounds_14 (by decide) ?_
      exact cv_zret S hr (by decide) hlk hsz h ⟨Or.inr ⟨rfl, okR_no (Or.inr c96)⟩, rfl⟩ dX6_isRounds_15
    · refine lv_iconst (v := 1) S.1 S.2.1 dX6_isRounds_10 (by decide) ?_
      refine lv_goto (tgt := 15) S.1 S.2.1 dX6_isRounds_11 (by decide) ?_
      exact cv_zret S hr (by decide) hlk hsz h ⟨Or.inl ⟨rfl, okR_of c95 c96⟩, rfl⟩ dX6_isRounds_15

set_option maxHeartbeats 4000000 in
set_option maxRecDepth 100000 in
theorem m_renew (l : Launch) (E : cv_E) (σ : cv_S) (hop : σ.2.2.1 49 2 = 0 ∨ σ.2.2.1 49 2 = 1) (pw : Int64) (rr : Int32) : cv_Mv l E yX6_renew wsX6_renew (cv_R 2) [.ref (E.2.1 49), .long pw, .int rr] σ (fun τ => (σ.2.2.1 49 2 = 0 ∧ τ = cv_uF σ 49 0 1) ∨ (σ.2.2.1 49 2 = 1 ∧ ¬ okR rr ∧ τ = cv_uF σ 49 0 2) ∨ (σ.2.2.1 49 2 = 1 ∧ okR rr ∧ τ = cv_uF (cv_uG (cv_uF σ 49 0 0) 49 3 pw) 49 6 rr)) := by
  intro sz
  refine cv_in (ws := wsX6_renew) (cc := cX6_renew) (maxL := 4) (ret := none) (own := RX6) rfl (by decide) rfl (Nat.le_of_ble_eq_true rfl) ?_
  intro p e s m below meth c S K hr hlk hsz h ls hl
  have hl : lv_has ls 4 [(0, .ref (E.2.1 49)), (1, .long pw), (3, .int rr)] := hl
  have hinX6 : ∀ w ∈ u_ws RX6 TX6 18, w ∈ wsX6_renew := by decide +kernel
  have hf_147 := S.2.2.2.2 (.fieldLink RX6 147 "CrashVaultModel" "open" "Z") (by decide +kernel)
  have hf_38 := S.2.2.2.2 (.fieldLink RX6 38 "CrashVaultModel" "thrown" "I") (by decide +kernel)
  have hf_85 := S.2.2.2.2 (.fieldLink RX6 85 "CrashVaultModel" "password" "J") (by decide +kernel)
  have hf_92 := S.2.2.2.2 (.fieldLink RX6 92 "CrashVaultModel" "rounds" "I") (by decide +kernel)
  rcases hop with ho | ho
  · refine lv_aload_n S.1 S.2.1 dX6_renew_0 rfl (lv_at hl 0 rfl) ?_
    refine lv_aload_n S.1 S.2.1 dX6_renew_1 rfl (lv_at hl 0 rfl) ?_
    refine cv_gf (ci := 6) (C := RX6) (T := TX6) (N := 18) (v := .int (σ.2.2.1 49 2)) S K h 49 rfl hinX6 rfl rfl 2 (by decide) hf_147 rfl rfl dX6_renew_2 ?_
    refine cv_rei (show (σ.2.2.1 49 2) = 0 from ho) ?_
    refine lv_if_ne (tgt := 12) S.1 S.2.1 dX6_renew_5 (by decide) (fun c97 => ?_) (fun c97 => ?_)
    · exact absurd c97 (by decide)
    · refine lv_iconst (v := 1) S.1 S.2.1 dX6_renew_8 (by decide) ?_
      refine lv_goto (tgt := 24) S.1 S.2.1 dX6_renew_9 (by decide) ?_
      refine cv_pf (ci := 6) (C := RX6) (T := TX6) (N := 18) (x := 1) S K h 49 rfl hinX6 rfl rfl 0 cv_pok_X6_0 hf_38 rfl rfl rfl (Nat.le_of_ble_eq_true rfl) rfl dX6_renew_24 (fun σ98 H locs eσ98 h => ?_)
      refine lv_aload_n S.1 S.2.1 dX6_renew_27 rfl (lv_at hl 0 rfl) ?_
      refine cv_gf (ci := 6) (C := RX6) (T := TX6) (N := 18) (v := .int (σ98.2.2.1 49 0)) S K h 49 rfl hinX6 rfl rfl 0 (by decide) hf_38 rfl rfl dX6_renew_28 ?_
      refine cv_rei (show (σ98.2.2.1 49 0) = 1 from by rw [eσ98, cv_F3, if_pos rfl, if_pos rfl]) ?_
      refine lv_if_ne (tgt := 44) S.1 S.2.1 dX6_renew_31 (by decide) (fun c99 => ?_) (fun c99 => ?_)
      · exact cv_vret S hr hlk hsz h (Or.inl ⟨ho, eσ98⟩) dX6_renew_44
      · exact absurd c99 (by decide)
  · refine lv_aload_n S.1 S.2.1 dX6_renew_0 rfl (lv_at hl 0 rfl) ?_
    refine lv_aload_n S.1 S.2.1 dX6_renew_1 rfl (lv_at hl 0 rfl) ?_
    refine cv_gf (ci := 6) (C := RX6) (T := TX6) (N := 18) (v := .int (σ.2.2.1 49 2)) S K h 49 rfl hinX6 rfl rfl 2 (by decide) hf_147 rfl rfl dX6_renew_2 ?_
    refine cv_rei (show (σ.2.2.1 49 2) = 1 from ho) ?_
    refine lv_if_ne (tgt := 12) S.1 S.2.1 dX6_renew_5 (by decide) (fun c100 => ?_) (fun c100 => ?_)
    · refine lv_iload_n S.1 S.2.1 dX6_renew_12 rfl (lv_at hl 2 rfl) ?_
      refine cv_callsi S K h hl.1 (m_isRounds l E σ rr) (va_cwS 1 S.2.2.2.2 gX6_renew_X6_isRounds rfl rfl rfl (by decide +kernel) ⟨Nat.le_of_ble_eq_true rfl, Nat.le_of_ble_eq_true rfl⟩) rfl rfl (Nat.le_of_ble_eq_true rfl) ⟨Nat.zero_le _, Nat.zero_le _⟩ dX6_renew_13 (fun rq σ101 H locs ⟨hq, hs9⟩ h => ?_)
      rw [hs9] at h
      rcases hq with ⟨q1, q2⟩ | ⟨q1, q2⟩
      · subst q1
        refine lv_if_ne (tgt := 23) S.1 S.2.1 dX6_renew_16 (by decide) (fun c102 => ?_) (fun c102 => ?_)
        · refine lv_iconst (v := 0) S.1 S.2.1 dX6_renew_23 (by decide) ?_
          refine cv_pf (ci := 6) (C := RX6) (T := TX6) (N := 18) (x := 0) S K h 49 rfl hinX6 rfl rfl 0 cv_pok_X6_0 hf_38 rfl rfl rfl (Nat.le_of_ble_eq_true rfl) rfl dX6_renew_24 (fun σ103 H locs eσ103 h => ?_)
          refine lv_aload_n S.1 S.2.1 dX6_renew_27 rfl (lv_at hl 0 rfl) ?_
          refine cv_gf (ci := 6) (C := RX6) (T := TX6) (N := 18) (v := .int (σ103.2.2.1 49 0)) S K h 49 rfl hinX6 rfl rfl 0 (by decide) hf_38 rfl rfl dX6_renew_28 ?_
          refine cv_rei (show (σ103.2.2.1 49 0) = 0 from by rw [eσ103, cv_F3, if_pos rfl, if_pos rfl]) ?_
          refine lv_if_ne (tgt := 44) S.1 S.2.1 dX6_renew_31 (by decide) (fun c104 => ?_) (fun c104 => ?_)
          · exact absurd c104 (by decide)
          · refine lv_aload_n S.1 S.2.1 dX6_renew_34 rfl (lv_at hl 0 rfl) ?_
            refine lv_lload_n S.1 S.2.1 dX6_renew_35 rfl (lv_at hl 1 rfl) ?_
            refine cv_pl (ci := 6) (C := RX6) (T := TX6) (N := 18) (x := pw) S K h 49 rfl hinX6 rfl rfl 3 cv_pok_X6_3 hf_85 rfl (Nat.le_of_ble_eq_true rfl) rfl dX6_renew_36 (fun σ105 H locs eσ105 h => ?_)
            refine lv_aload_n S.1 S.2.1 dX6_renew_39 rfl (lv_at hl 0 rfl) ?_
            refine lv_iload_n S.1 S.2.1 dX6_renew_40 rfl (lv_at hl 2 rfl) ?_
            refine cv_pf (ci := 6) (C := RX6) (T := TX6) (N := 18) (x := rr) S K h 49 rfl hinX6 rfl rfl 6 cv_pok_X6_6 hf_92 rfl rfl rfl (Nat.le_of_ble_eq_true rfl) rfl dX6_renew_41 (fun σ106 H locs eσ106 h => ?_)
            exact cv_vret S hr hlk hsz h (Or.inr (Or.inr ⟨ho, q2, by rw [eσ106, eσ105, eσ103]⟩)) dX6_renew_44
        · exact absurd c102 (by decide)
      · subst q1
        refine lv_if_ne (tgt := 23) S.1 S.2.1 dX6_renew_16 (by decide) (fun c107 => ?_) (fun c107 => ?_)
        · exact absurd c107 (by decide)
        · refine lv_iconst (v := 2) S.1 S.2.1 dX6_renew_19 (by decide) ?_
          refine lv_goto (tgt := 24) S.1 S.2.1 dX6_renew_20 (by decide) ?_
          refine cv_pf (ci := 6) (C := RX6) (T := TX6) (N := 18) (x := 2) S K h 49 rfl hinX6 rfl rfl 0 cv_pok_X6_0 hf_38 rfl rfl rfl (Nat.le_of_ble_eq_true rfl) rfl dX6_renew_24 (fun σ108 H locs eσ108 h => ?_)
          refine lv_aload_n S.1 S.2.1 dX6_renew_27 rfl (lv_at hl 0 rfl) ?_
          refine cv_gf (ci := 6) (C := RX6) (T := TX6) (N := 18) (v := .int (σ108.2.2.1 49 0)) S K h 49 rfl hinX6 rfl rfl 0 (by decide) hf_38 rfl rfl dX6_renew_28 ?_
          refine cv_rei (show (σ108.2.2.1 49 0) = 2 from by rw [eσ108, cv_F3, if_pos rfl, if_pos rfl]) ?_
          refine lv_if_ne (tgt := 44) S.1 S.2.1 dX6_renew_31 (by decide) (fun c109 => ?_) (fun c109 => ?_)
          · exact cv_vret S hr hlk hsz h (Or.inr (Or.inl ⟨ho, q2, eσ108⟩)) dX6_renew_44
          · exact absurd c109 (by decide)
    · exact absurd c100 (by decide)

set_option maxHeartbeats 4000000 in
set_option maxRecDepth 100000 in
theorem m_remove (l : Launch) (E : cv_E) (σ : cv_S) (cnt : Nat) (N : Nat → Int64) (O : Nat → Nat) (V : Nat → Nat → Int64) (hc8 : cnt ≤ 8) (hct : σ.2.2.1 49 8 = nI cnt) (hop : σ.2.2.1 49 2 = 0 ∨ σ.2.2.1 49 2 = 1) (hR0 : σ.2.2.1 49 2 = 1 → em_R σ cnt N O V) (nm : Int64) : cv_Mi l E yX6_remove wsX6_remove (cv_R 2) [.ref (E.2.1 49), .long nm] σ (fun r τ => (σ.2.2.1 49 2 = 0 ∧ τ = cv_uF σ 49 0 1) ∨ (σ.2.2.1 49 2 = 1 ∧ (∃ a, fdN N cnt nm a) ∧ r = 0 ∧ τ = cv_uF σ 49 0 0) ∨ (σ.2.2.1 49 2 = 1 ∧ r = 1 ∧ τ.2.2.1 49 0 = 0 ∧ mp_F σ τ ∧ ∃ a, fdY N cnt nm a ∧ em_R τ (cnt - 1) (li_del N a) (li_del O a) (li_del V a))) := by
  intro sz
  refine cv_in (ws := wsX6_remove) (cc := cX6_remove) (maxL := 5) (ret := (some .boolean)) (own := RX6) rfl (by decide) rfl (Nat.le_of_ble_eq_true rfl) ?_
  intro p e s m below meth c S K hr hlk hsz h ls hl
  have hl : lv_has ls 5 [(0, .ref (E.2.1 49)), (1, .long nm)] := hl
  have hinX6 : ∀ w ∈ u_ws RX6 TX6 18, w ∈ wsX6_remove := by decide +kernel
  have hf_147 := S.2.2.2.2 (.fieldLink RX6 147 "CrashVaultModel" "open" "Z") (by decide +kernel)
  have hf_38 := S.2.2.2.2 (.fieldLink RX6 38 "CrashVaultModel" "thrown" "I") (by decide +kernel)
  have hf_78 := S.2.2.2.2 (.fieldLink RX6 78 "CrashVaultModel" "entries" "I") (by decide +kernel)
  refine lv_aload_n S.1 S.2.1 dX6_remove_0 rfl (lv_at hl 0 rfl) ?_
  refine lv_lload_n S.1 S.2.1 dX6_remove_1 rfl (lv_at hl 1 rfl) ?_
  refine cv_calli (ci := 6) (C := RX6) (T := TX6) (N := 18) S K h hl.1 rfl rfl rfl (m_find l E σ cnt hc8 hct nm) (cwV 1 S.2.2.2.2 gX6_remove_X6_find rfl rfl rfl (by decide +kernel) ⟨Nat.le_of_ble_eq_true rfl, Nat.le_of_ble_eq_true rfl⟩) rfl rfl (Nat.le_of_ble_eq_true rfl) ⟨Nat.zero_le _, Nat.zero_le _⟩ dX6_remove_2 (fun rf σ110 H locs ⟨hfd, hs9⟩ h => ?_)
  rw [hs9] at h
  refine lv_istore_n (lv' := [(3, .int rf), (0, .ref (E.2.1 49)), (1, .long nm)]) S.1 S.2.1 dX6_remove_5 rfl hl (by decide) rfl (fun ls hl => ?_)
  obtain ⟨i0, f1, f2, f3, f4⟩ := hfd
  rcases hop with ho | ho
  · refine lv_aload_n S.1 S.2.1 dX6_remove_6 rfl (lv_at hl 1 rfl) ?_
    refine lv_aload_n S.1 S.2.1 dX6_remove_7 rfl (lv_at hl 1 rfl) ?_
    refine cv_gf (ci := 6) (C := RX6) (T := TX6) (N := 18) (v := .int (σ.2.2.1 49 2)) S K h 49 rfl hinX6 rfl rfl 2 (by decide) hf_147 rfl rfl dX6_remove_8 ?_
    refine cv_rei (show (σ.2.2.1 49 2) = 0 from ho) ?_
    refine lv_if_eq (tgt := 18) S.1 S.2.1 dX6_remove_11 (by decide) (fun c111 => ?_) (fun c111 => ?_)
    · refine lv_iconst (v := 1) S.1 S.2.1 dX6_remove_18 (by decide) ?_
      refine cv_pf (ci := 6) (C := RX6) (T := TX6) (N := 18) (x := 1) S K h 49 rfl hinX6 rfl rfl 0 cv_pok_X6_0 hf_38 rfl rfl rfl (Nat.le_of_ble_eq_true rfl) rfl dX6_remove_19 (fun σ112 H locs eσ112 h => ?_)
      refine lv_aload_n S.1 S.2.1 dX6_remove_22 rfl (lv_at hl 1 rfl) ?_
      refine cv_gf (ci := 6) (C := RX6) (T := TX6) (N := 18) (v := .int (σ112.2.2.1 49 0)) S K h 49 rfl hinX6 rfl rfl 0 (by decide) hf_38 rfl rfl dX6_remove_23 ?_
      refine cv_rei (show (σ112.2.2.1 49 0) = 1 from by rw [eσ112, cv_F3, if_pos rfl, if_pos rfl]) ?_
      refine lv_if_gt (tgt := 33) S.1 S.2.1 dX6_remove_26 (by decide) (fun c113 => ?_) (fun c113 => ?_)
      · refine lv_iconst (v := 0) S.1 S.2.1 dX6_remove_33 (by decide) ?_
        exact cv_zret S hr (by decide) hlk hsz h (Or.inl ⟨ho, eσ112⟩) dX6_remove_34
      · exact absurd c113 (by decide)
    · exact absurd c111 (by decide)
  · refine lv_aload_n S.1 S.2.1 dX6_remove_6 rfl (lv_at hl 1 rfl) ?_
    refine lv_aload_n S.1 S.2.1 dX6_remove_7 rfl (lv_at hl 1 rfl) ?_
    refine cv_gf (ci := 6) (C := RX6) (T := TX6) (N := 18) (v := .int (σ.2.2.1 49 2)) S K h 49 rfl hinX6 rfl rfl 2 (by decide) hf_147 rfl rfl dX6_remove_8 ?_
    refine cv_rei (show (σ.2.2.1 49 2) = 1 from ho) ?_
    refine lv_if_eq (tgt := 18) S.1 S.2.1 dX6_remove_11 (by decide) (fun c114 => ?_) (fun c114 => ?_)
    · exact absurd c114 (by decide)
    · refine lv_iconst (v := 0) S.1 S.2.1 dX6_remove_14 (by decide) ?_
      refine lv_goto (tgt := 19) S.1 S.2.1 dX6_remove_15 (by decide) ?_
      refine cv_pf (ci := 6) (C := RX6) (T := TX6) (N := 18) (x := 0) S K h 49 rfl hinX6 rfl rfl 0 cv_pok_X6_0 hf_38 rfl rfl rfl (Nat.le_of_ble_eq_true rfl) rfl dX6_remove_19 (fun σ115 H locs eσ115 h => ?_)
      refine lv_aload_n S.1 S.2.1 dX6_remove_22 rfl (lv_at hl 1 rfl) ?_
      refine cv_gf (ci := 6) (C := RX6) (T := TX6) (N := 18) (v := .int (σ115.2.2.1 49 0)) S K h 49 rfl hinX6 rfl rfl 0 (by decide) hf_38 rfl rfl dX6_remove_23 ?_
      refine cv_rei (show (σ115.2.2.1 49 0) = 0 from by rw [eσ115, cv_F3, if_pos rfl, if_pos rfl]) ?_
      refine lv_if_gt (tgt := 33) S.1 S.2.1 dX6_remove_26 (by decide) (fun c116 => ?_) (fun c116 => ?_)
      · exact absurd c116 (by decide)
      · obtain ⟨q1, q2, q3⟩ := hR0 ho
        have hN : ∀ j, j < cnt → σ.2.1 51 j = N j := fun j hj => (q3 j hj).1
        have hp1 : mp_F σ σ115 ∧ σ115.2.2.1 49 0 = 0 ∧ em_R σ115 cnt N O V := by rw [eσ115]; exact ⟨mp_uF (Or.inl rfl), by rw [cv_F3, if_pos rfl, if_pos rfl], em_uF ⟨q1, q2, q3⟩ (by decide)⟩
        rcases f4 with ⟨j1, j2, j3⟩ | ⟨j1, j3⟩
        · subst j3
          have hY : fdY N cnt nm i0 := ⟨j1, (hN i0 j1).symm.trans j2, fun j hj => by rw [← hN j (by omega)]; exact f2 j hj⟩
          obtain ⟨u1, u2, u3⟩ := hp1.2.2
          refine lv_iload_n S.1 S.2.1 dX6_remove_29 rfl (lv_at hl 0 rfl) ?_
          refine lv_if_ge (tgt := 35) S.1 S.2.1 dX6_remove_30 (by decide) (fun d1 => ?_) (fun d1 => ?_)
          · refine lv_aload_n S.1 S.2.1 dX6_remove_35 rfl (lv_at hl 1 rfl) ?_
            refine lv_dup S.1 S.2.1 dX6_remove_36 rfl ?_
            refine cv_gf (ci := 6) (C := RX6) (T := TX6) (N := 18) (v := .int (σ115.2.2.1 49 8)) S K h 49 rfl hinX6 rfl rfl 8 (by decide) hf_78 rfl rfl dX6_remove_37 ?_
            refine lv_iconst (v := 1) S.1 S.2.1 dX6_remove_40 (by decide) ?_
            refine lv_isub S.1 S.2.1 dX6_remove_41 ?_
            refine cv_rei (show (((σ115.2.2.1 49 8)) - 1) = nI (cnt - 1) from by rw [u1]; exact pk_sub (b := 1) (by omega)) ?_
            refine cv_pf (ci := 6) (C := RX6) (T := TX6) (N := 18) (x := (nI (cnt - 1))) S K h 49 rfl hinX6 rfl rfl 8 cv_pok_X6_8 hf_78 rfl rfl rfl (Nat.le_of_ble_eq_true rfl) rfl dX6_remove_42 (fun σ117 H locs eσ117 h => ?_)
            refine lv_iload_n S.1 S.2.1 dX6_remove_45 rfl (lv_at hl 0 rfl) ?_
            refine lv_istore (lv' := [(4, .int (nI i0)), (3, .int (nI i0)), (0, .ref (E.2.1 49)), (1, .long nm)]) S.1 S.2.1 dX6_remove_46 hl (by decide) rfl (fun ls hl => ?_)
            have hp2 : mp_F σ σ117 ∧ σ117.2.2.1 49 0 = 0 ∧ σ117.2.2.1 49 8 = nI (cnt - 1) ∧ ∀ j, em_E σ117 j σ115 j := by rw [eσ117]; exact ⟨hp1.1.trans (mp_uF (Or.inr rfl)), by rw [cv_F3, if_pos rfl, if_neg (by decide)]; exact hp1.2.1, by rw [cv_F3, if_pos rfl, if_pos rfl], fun j => ⟨rfl, rfl, fun _ _ => rfl⟩⟩
            refine cv_loop (α := Unit) (nL := 5) (cnt - 1) (fun i a τ => i0 ≤ i ∧ mp_F σ τ ∧ τ.2.2 = σ117.2.2 ∧ (∀ j, j < cnt → (j < i0 ∨ i ≤ j) → em_E τ j σ115 j) ∧ (∀ j, i0 ≤ j → j < i → em_E τ j σ115 (j + 1))) (fun i a => [(4, .int (nI i)), (3, .int (nI i0)), (0, .ref (E.2.1 49)), (1, .long nm)]) ?_ ?_ i0 () σ117 _ _ _ (by omega) (⟨Nat.le_refl _, hp2.1, rfl, fun j _ _ => hp2.2.2.2 j, fun j h1 h2 => absurd h2 (by omega)⟩) h hl
            · intro i a τ H locs ls hi hI h hl ih
              have hl : lv_has ls 5 [(4, .int (nI i)), (3, .int (nI i0)), (0, .ref (E.2.1 49)), (1, .long nm)] := hl
              obtain ⟨g0, g1, g2, g3, g4⟩ := hI
              refine lv_iload S.1 S.2.1 dX6_remove_48 (lv_at hl 0 rfl) ?_
              refine lv_aload_n S.1 S.2.1 dX6_remove_50 rfl (lv_at hl 2 rfl) ?_
              refine cv_gf (ci := 6) (C := RX6) (T := TX6) (N := 18) (v := .int (τ.2.2.1 49 8)) S K h 49 rfl hinX6 rfl rfl 8 (by decide) hf_78 rfl rfl dX6_remove_51 ?_
              refine cv_rei (show (τ.2.2.1 49 8) = nI (cnt - 1) from by rw [g2]; exact hp2.2.2.1) ?_
              refine lv_icmp_ge (tgt := 73) S.1 S.2.1 dX6_remove_54 (by decide) (fun d2 => ?_) (fun d2 => ?_)
              · exact absurd d2 (nI_ge hi (by omega))
              · refine lv_aload_n S.1 S.2.1 dX6_remove_57 rfl (lv_at hl 2 rfl) ?_
                refine lv_iload S.1 S.2.1 dX6_remove_58 (lv_at hl 0 rfl) ?_
                refine lv_iload S.1 S.2.1 dX6_remove_60 (lv_at hl 0 rfl) ?_
                refine lv_iconst (v := 1) S.1 S.2.1 dX6_remove_62 (by decide) ?_
                refine lv_iadd S.1 S.2.1 dX6_remove_63 ?_
                refine cv_rei (show (((nI i)) + 1) = nI (i + 1) from nI_1 i) ?_
                refine cv_callv (ci := 6) (C := RX6) (T := TX6) (N := 18) S K h hl.1 rfl rfl rfl (m_move l E τ i (i + 1) (by omega) (by omega)) (cwV 2 S.2.2.2.2 gX6_remove_X6_move rfl rfl rfl (by decide +kernel) ⟨Nat.le_of_ble_eq_true rfl, Nat.le_of_ble_eq_true rfl⟩) rfl rfl (Nat.le_of_ble_eq_true rfl) ⟨Nat.zero_le _, Nat.zero_le _⟩ dX6_remove_64 (fun σ118 H locs hq h => ?_)
                obtain ⟨z5, ez5⟩ : ∃ y : Int32, y = ((nI i)) + 1 := ⟨_, rfl⟩
                refine lv_iinc (v := z5) (lv' := [(4, .int z5), (3, .int (nI i0)), (0, .ref (E.2.1 49)), (1, .long nm)]) S.1 S.2.1 dX6_remove_67 hl (k := 0) rfl (by rw [ez5]; rfl) (by decide) rfl (fun ls hl => ?_)
                refine lv_goto (tgt := 48) S.1 S.2.1 dX6_remove_70 (by decide) ?_
                rw [ez5, nI_1] at hl
                obtain ⟨p1, p2, p3, p4⟩ := hq
                refine ih () σ118 H locs ls ⟨by omega, g1.trans p3, p4.trans g2, fun j h1 h2 => (p2 j (by omega) (by omega)).trans (g3 j h1 (by omega)), fun j h1 h2 => ?_⟩ h hl
                by_cases hj : j = i
                · subst hj; exact p1.trans (g3 (j + 1) (by omega) (by omega))
                · exact (p2 j (by omega) hj).trans (g4 j h1 (by omega))
            · intro a τ H locs ls hI h hl
              have hl : lv_has ls 5 [(4, .int (nI (cnt - 1))), (3, .int (nI i0)), (0, .ref (E.2.1 49)), (1, .long nm)] := hl
              obtain ⟨g0, g1, g2, g3, g4⟩ := hI
              refine lv_iload S.1 S.2.1 dX6_remove_48 (lv_at hl 0 rfl) ?_
              refine lv_aload_n S.1 S.2.1 dX6_remove_50 rfl (lv_at hl 2 rfl) ?_
              refine cv_gf (ci := 6) (C := RX6) (T := TX6) (N := 18) (v := .int (τ.2.2.1 49 8)) S K h 49 rfl hinX6 rfl rfl 8 (by decide) hf_78 rfl rfl dX6_remove_51 ?_
              refine cv_rei (show (τ.2.2.1 49 8) = nI (cnt - 1) from by rw [g2]; exact hp2.2.2.1) ?_
              refine lv_icmp_ge (tgt := 73) S.1 S.2.1 dX6_remove_54 (by decide) (fun d2 => ?_) (fun d2 => ?_)
              · refine lv_iconst (v := 1) S.1 S.2.1 dX6_remove_73 (by decide) ?_
                refine cv_zret S hr (by decide) hlk hsz h (Or.inr (Or.inr ⟨ho, rfl, by rw [g2]; exact hp2.2.1, g1, i0, hY, by rw [g2]; exact hp2.2.2.1, by omega, fun i hi => ?_⟩)) dX6_remove_74
                by_cases hia : i < i0
                · have := (g3 i (by omega) (Or.inl hia)).R (u3 i (by omega))
                  simpa [li_del, hia] using this
                · have := (g4 i (by omega) hi).R (u3 (i + 1) (by omega))
                  simpa [li_del, hia] using this
              · exact absurd (Int32.le_refl _) d2
          · exact absurd (nI_pos' (by omega)) d1
        · have hneg := m1_neg i0 (by omega)
          rw [← j3] at hneg
          refine lv_iload_n S.1 S.2.1 dX6_remove_29 rfl (lv_at hl 0 rfl) ?_
          refine lv_if_ge (tgt := 35) S.1 S.2.1 dX6_remove_30 (by decide) (fun d1 => ?_) (fun d1 => ?_)
          · exact absurd hneg (Int32.not_lt.mpr d1)
          · refine lv_iconst (v := 0) S.1 S.2.1 dX6_remove_33 (by decide) ?_
            exact cv_zret S hr (by decide) hlk hsz h (Or.inr (Or.inl ⟨ho, ⟨i0, f1, fun j hj => by rw [← hN j (by omega)]; exact f2 j hj, fun q => ⟨by rw [← hN i0 q]; exact f3 q, by rw [← hN i0 q]; exact j1.resolve_left (by omega)⟩⟩, rfl, eσ115⟩)) dX6_remove_34
