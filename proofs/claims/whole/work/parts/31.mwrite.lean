/-! 31: the reference: write -/
theorem co_mon (O : Nat → Nat) (cnt : Nat) : ∀ i, i ≤ cnt → co_sz O i + (if i < cnt then 17 + 8 * O i else 0) ≤ co_sz O cnt := by
  intro i hi
  have key : ∀ d i, i + d = cnt → co_sz O i + (if i < cnt then 17 + 8 * O i else 0) ≤ co_sz O cnt := by
    intro d
    induction d with
    | zero => intro i h1; rw [if_neg (by omega), show i = cnt by omega]; exact Nat.le_refl _
    | succ d ih =>
      intro i h1
      have h2 := ih (i + 1) (by omega)
      rw [if_pos (by omega)]
      have h3 : co_sz O (i + 1) = co_sz O i + (17 + 8 * O i) := rfl
      omega
  exact key (cnt - i) i (by omega)
theorem byl_n2 (n : Nat) : byl (nI n).toInt64 1 ++ byl (nI n >>> ((8 : Int32) &&& 31)).toInt64 1 = byl (nI n).toInt64 2 := by
  rw [byl_s _ 1]
  congr 1
  show [lb _ 0] = _
  have q1 := and255 (nI n >>> ((8 : Int32) &&& 31))
  have q0 := ib_shr (nI n) (k := 1) (by decide)
  rw [show ((8 * nI 1 : Int32) &&& 31) = ((8 : Int32) &&& 31) from by decide] at q0
  rw [q0] at q1
  have q2 := (nI_eq (by have := ib_lt (nI n) 1; omega) (by have := lb_lt (nI n >>> ((8 : Int32) &&& 31)).toInt64 0; omega)).mp q1
  rw [← q2, lb_int (nI n) (by decide)]

set_option maxHeartbeats 4000000 in
set_option maxRecDepth 100000 in
/-- the file of the vault, with the serial sr -/
theorem m_write (l : Launch) (E : cv_E) (σ : cv_S) (cnt : Nat) (N : Nat → Int64) (O : Nat → Nat) (V : Nat → Nat → Int64) (hR : em_R σ cnt N O V) (pw : Int64) (sa sr : Int32) (rd : Nat) (hrd40 : rd ≤ 40) (hpw : σ.2.2.2 49 3 = pw) (hsa : σ.2.2.1 49 5 = sa) (hrd : σ.2.2.1 49 6 = nI rd) : cv_Mv l E yX6_write wsX6_write (cv_R 7) [.ref (E.2.1 49), .int sr] σ (fun τ => mw_F [54, 55, 56, 57, 58] σ τ ∧ mf τ (fl pw sa sr rd (co_l N O V cnt cnt))) := by
  intro sz
  refine cv_in (ws := wsX6_write) (cc := cX6_write) (maxL := 5) (ret := none) (own := RX6) rfl (by decide) rfl (Nat.le_of_ble_eq_true rfl) ?_
  intro p e s m below meth c S K hr hlk hsz h ls hl
  have hl : lv_has ls 5 [(0, .ref (E.2.1 49)), (1, .int sr)] := hl
  have hinX6 : ∀ w ∈ u_ws RX6 TX6 18, w ∈ wsX6_write := by decide +kernel
  have hf_13 := S.2.2.2.2 (.fieldLink RX6 13 "CrashVaultModel" "names" "[J") (by decide +kernel)
  have hf_17 := S.2.2.2.2 (.fieldLink RX6 17 "CrashVaultModel" "olds" "[I") (by decide +kernel)
  have hf_20 := S.2.2.2.2 (.fieldLink RX6 20 "CrashVaultModel" "values" "[J") (by decide +kernel)
  have hf_64 := S.2.2.2.2 (.fieldLink RX6 64 "CrashVaultModel" "size" "I") (by decide +kernel)
  have hf_78 := S.2.2.2.2 (.fieldLink RX6 78 "CrashVaultModel" "entries" "I") (by decide +kernel)
  have hf_85 := S.2.2.2.2 (.fieldLink RX6 85 "CrashVaultModel" "password" "J") (by decide +kernel)
  have hf_89 := S.2.2.2.2 (.fieldLink RX6 89 "CrashVaultModel" "salt" "I") (by decide +kernel)
  have hf_92 := S.2.2.2.2 (.fieldLink RX6 92 "CrashVaultModel" "rounds" "I") (by decide +kernel)
  have hCl : (co_l N O V cnt cnt).length = co_sz O cnt := co_l_len N O V cnt cnt
  have hn8 : co_sz O cnt ≤ 265 := by
    have h1 := co_sz_le (n := cnt) (fun i hi => (hR.2.2 i hi).2.2.1)
    have h2 := hR.2.1
    omega
  refine lv_aload_n S.1 S.2.1 dX6_write_0 rfl (lv_at hl 0 rfl) ?_
  refine cv_calli (ci := 6) (C := RX6) (T := TX6) (N := 18) S K h hl.1 rfl rfl rfl (m_contentSize l E σ cnt N O V hR) (cwV 0 S.2.2.2.2 gX6_write_X6_contentSize rfl rfl rfl (by decide +kernel) ⟨Nat.le_of_ble_eq_true rfl, Nat.le_of_ble_eq_true rfl⟩) rfl rfl (Nat.le_of_ble_eq_true rfl) ⟨Nat.zero_le _, Nat.zero_le _⟩ dX6_write_1 (fun nb σ14 H locs ⟨hnb, hs9⟩ h => ?_)
  rw [hs9] at h
  subst hnb
  refine lv_istore_n (lv' := [(2, .int (nI (co_sz O cnt))), (0, .ref (E.2.1 49)), (1, .int sr)]) S.1 S.2.1 dX6_write_4 rfl hl (by decide) rfl (fun ls hl => ?_)
  refine lv_aload_n S.1 S.2.1 dX6_write_5 rfl (lv_at hl 1 rfl) ?_
  refine lv_aload_n S.1 S.2.1 dX6_write_6 rfl (lv_at hl 1 rfl) ?_
  refine cv_gf (ci := 6) (C := RX6) (T := TX6) (N := 18) (v := .long (σ.2.2.2 49 3)) S K h 49 rfl hinX6 rfl rfl 3 (by decide) hf_85 rfl rfl dX6_write_7 ?_
  refine cv_rel (show (σ.2.2.2 49 3) = pw from hpw) ?_
  refine lv_aload_n S.1 S.2.1 dX6_write_10 rfl (lv_at hl 1 rfl) ?_
  refine cv_gf (ci := 6) (C := RX6) (T := TX6) (N := 18) (v := .int (σ.2.2.1 49 5)) S K h 49 rfl hinX6 rfl rfl 5 (by decide) hf_89 rfl rfl dX6_write_11 ?_
  refine cv_rei (show (σ.2.2.1 49 5) = sa from hsa) ?_
  refine lv_aload_n S.1 S.2.1 dX6_write_14 rfl (lv_at hl 1 rfl) ?_
  refine cv_gf (ci := 6) (C := RX6) (T := TX6) (N := 18) (v := .int (σ.2.2.1 49 6)) S K h 49 rfl hinX6 rfl rfl 6 (by decide) hf_92 rfl rfl dX6_write_15 ?_
  refine cv_rei (show (σ.2.2.1 49 6) = nI rd from hrd) ?_
  refine cv_callv (ci := 6) (C := RX6) (T := TX6) (N := 18) S K h hl.1 rfl rfl rfl (m_makeMain l E σ pw sa rd hrd40) (cwV 3 S.2.2.2.2 gX6_write_X6_makeMain rfl rfl rfl (by decide +kernel) ⟨Nat.le_of_ble_eq_true rfl, Nat.le_of_ble_eq_true rfl⟩) rfl rfl (Nat.le_of_ble_eq_true rfl) ⟨Nat.zero_le _, Nat.zero_le _⟩ dX6_write_18 (fun σ15 H locs hk h => ?_)
  refine lv_aload_n S.1 S.2.1 dX6_write_21 rfl (lv_at hl 1 rfl) ?_
  refine lv_iconst (v := 0) S.1 S.2.1 dX6_write_22 (by decide) ?_
  refine cv_pf (ci := 6) (C := RX6) (T := TX6) (N := 18) (x := 0) S K h 49 rfl hinX6 rfl rfl 17 cv_pok_X6_17 hf_64 rfl rfl rfl (Nat.le_of_ble_eq_true rfl) rfl dX6_write_23 (fun σ16 H locs eσ16 h => ?_)
  have a0 : mw_F [54, 55, 56, 57, 58] σ σ16 ∧ pu_eq 4 (σ16.1 57) (pu_key pw sa rd) ∧ mf σ16 [] := by
    rw [eσ16]
    refine ⟨((mw_fr hk.1).mono (by decide)).trans ⟨fun _ _ => rfl, rfl, fun q i hq => ?_, rfl⟩, hk.2, rh_nil _ 0, by rw [cv_F3, if_pos rfl, if_pos rfl]; rfl⟩
    rw [cv_F3]
    by_cases h1 : q = 49
    · rw [if_pos h1, if_neg (by omega), h1]
    · rw [if_neg h1]
  refine lv_aload_n S.1 S.2.1 dX6_write_26 rfl (lv_at hl 1 rfl) ?_
  refine lv_bipush (v := 86) S.1 S.2.1 dX6_write_27 (by decide) ?_
  refine cv_callv (ci := 6) (C := RX6) (T := TX6) (N := 18) S K h hl.1 rfl rfl rfl (m_add l E σ16 _ a0.2.2 (by (try simp only [List.length_append, byl_len, List.length_nil]); decide) 86) (cwV 1 S.2.2.2.2 gX6_write_X6_add rfl rfl rfl (by decide +kernel) ⟨Nat.le_of_ble_eq_true rfl, Nat.le_of_ble_eq_true rfl⟩) rfl rfl (Nat.le_of_ble_eq_true rfl) ⟨Nat.zero_le _, Nat.zero_le _⟩ dX6_write_29 (fun σ17 H locs b29 h => ?_)
  have a1 : mw_F [54, 55, 56, 57, 58] σ σ17 ∧ pu_eq 4 (σ17.1 57) (pu_key pw sa rd) ∧ mf σ17 (([] : List Nat) ++ byl (86 : Int32).toInt64 1) := ⟨a0.1.trans (b29.1.mono (by decide)), by rw [b29.1.1 57 (by decide)]; exact a0.2.1, b29.2⟩
  refine lv_aload_n S.1 S.2.1 dX6_write_32 rfl (lv_at hl 1 rfl) ?_
  refine lv_bipush (v := 50) S.1 S.2.1 dX6_write_33 (by decide) ?_
  refine cv_callv (ci := 6) (C := RX6) (T := TX6) (N := 18) S K h hl.1 rfl rfl rfl (m_add l E σ17 _ a1.2.2 (by (try simp only [List.length_append, byl_len, List.length_nil]); decide) 50) (cwV 1 S.2.2.2.2 gX6_write_X6_add rfl rfl rfl (by decide +kernel) ⟨Nat.le_of_ble_eq_true rfl, Nat.le_of_ble_eq_true rfl⟩) rfl rfl (Nat.le_of_ble_eq_true rfl) ⟨Nat.zero_le _, Nat.zero_le _⟩ dX6_write_35 (fun σ18 H locs b35 h => ?_)
  have a2 : mw_F [54, 55, 56, 57, 58] σ σ18 ∧ pu_eq 4 (σ18.1 57) (pu_key pw sa rd) ∧ mf σ18 (([] : List Nat) ++ byl (86 : Int32).toInt64 1 ++ byl (50 : Int32).toInt64 1) := ⟨a1.1.trans (b35.1.mono (by decide)), by rw [b35.1.1 57 (by decide)]; exact a1.2.1, b35.2⟩
  rw [show ([] : List Nat) ++ byl (86 : Int32).toInt64 1 ++ byl (50 : Int32).toInt64 1 = [86, 50] from by decide] at a2
  refine lv_aload_n S.1 S.2.1 dX6_write_38 rfl (lv_at hl 1 rfl) ?_
  refine lv_iload_n S.1 S.2.1 dX6_write_39 rfl (lv_at hl 2 rfl) ?_
  refine cv_callv (ci := 6) (C := RX6) (T := TX6) (N := 18) S K h hl.1 rfl rfl rfl (m_addInt l E σ18 _ a2.2.2 (by (try simp only [List.length_append, byl_len, List.length_nil]); decide) sr) (cwV 1 S.2.2.2.2 gX6_write_X6_addInt rfl rfl rfl (by decide +kernel) ⟨Nat.le_of_ble_eq_true rfl, Nat.le_of_ble_eq_true rfl⟩) rfl rfl (Nat.le_of_ble_eq_true rfl) ⟨Nat.zero_le _, Nat.zero_le _⟩ dX6_write_40 (fun σ19 H locs b40 h => ?_)
  have a3 : mw_F [54, 55, 56, 57, 58] σ σ19 ∧ pu_eq 4 (σ19.1 57) (pu_key pw sa rd) ∧ mf σ19 ([86, 50] ++ byl sr.toInt64 4) := ⟨a2.1.trans (b40.1.mono (by decide)), by rw [b40.1.1 57 (by decide)]; exact a2.2.1, b40.2⟩
  refine lv_aload_n S.1 S.2.1 dX6_write_43 rfl (lv_at hl 1 rfl) ?_
  refine lv_aload_n S.1 S.2.1 dX6_write_44 rfl (lv_at hl 1 rfl) ?_
  refine cv_gf (ci := 6) (C := RX6) (T := TX6) (N := 18) (v := .int (σ19.2.2.1 49 5)) S K h 49 rfl hinX6 rfl rfl 5 (by decide) hf_89 rfl rfl dX6_write_45 ?_
  refine cv_rei (show (σ19.2.2.1 49 5) = sa from by rw [a3.1.2.2.1 49 5 (Or.inr (by decide))]; exact hsa) ?_
  refine cv_callv (ci := 6) (C := RX6) (T := TX6) (N := 18) S K h hl.1 rfl rfl rfl (m_addInt l E σ19 _ a3.2.2 (by (try simp only [List.length_append, byl_len, List.length_nil]); decide) sa) (cwV 1 S.2.2.2.2 gX6_write_X6_addInt rfl rfl rfl (by decide +kernel) ⟨Nat.le_of_ble_eq_true rfl, Nat.le_of_ble_eq_true rfl⟩) rfl rfl (Nat.le_of_ble_eq_true rfl) ⟨Nat.zero_le _, Nat.zero_le _⟩ dX6_write_48 (fun σ20 H locs b48 h => ?_)
  have a4 : mw_F [54, 55, 56, 57, 58] σ σ20 ∧ pu_eq 4 (σ20.1 57) (pu_key pw sa rd) ∧ mf σ20 ([86, 50] ++ byl sr.toInt64 4 ++ byl sa.toInt64 4) := ⟨a3.1.trans (b48.1.mono (by decide)), by rw [b48.1.1 57 (by decide)]; exact a3.2.1, b48.2⟩
  refine lv_aload_n S.1 S.2.1 dX6_write_51 rfl (lv_at hl 1 rfl) ?_
  refine lv_aload_n S.1 S.2.1 dX6_write_52 rfl (lv_at hl 1 rfl) ?_
  refine cv_gf (ci := 6) (C := RX6) (T := TX6) (N := 18) (v := .int (σ20.2.2.1 49 6)) S K h 49 rfl hinX6 rfl rfl 6 (by decide) hf_92 rfl rfl dX6_write_53 ?_
  refine cv_rei (show (σ20.2.2.1 49 6) = nI rd from by rw [a4.1.2.2.1 49 6 (Or.inr (by decide))]; exact hrd) ?_
  refine cv_callv (ci := 6) (C := RX6) (T := TX6) (N := 18) S K h hl.1 rfl rfl rfl (m_add l E σ20 _ a4.2.2 (by (try simp only [List.length_append, byl_len, List.length_nil]); decide) (nI rd)) (cwV 1 S.2.2.2.2 gX6_write_X6_add rfl rfl rfl (by decide +kernel) ⟨Nat.le_of_ble_eq_true rfl, Nat.le_of_ble_eq_true rfl⟩) rfl rfl (Nat.le_of_ble_eq_true rfl) ⟨Nat.zero_le _, Nat.zero_le _⟩ dX6_write_56 (fun σ21 H locs b56 h => ?_)
  have a5 : mw_F [54, 55, 56, 57, 58] σ σ21 ∧ pu_eq 4 (σ21.1 57) (pu_key pw sa rd) ∧ mf σ21 ([86, 50] ++ byl sr.toInt64 4 ++ byl sa.toInt64 4 ++ byl (nI rd).toInt64 1) := ⟨a4.1.trans (b56.1.mono (by decide)), by rw [b56.1.1 57 (by decide)]; exact a4.2.1, b56.2⟩
  refine lv_aload_n S.1 S.2.1 dX6_write_59 rfl (lv_at hl 1 rfl) ?_
  refine lv_iload_n S.1 S.2.1 dX6_write_60 rfl (lv_at hl 0 rfl) ?_
  refine cv_callv (ci := 6) (C := RX6) (T := TX6) (N := 18) S K h hl.1 rfl rfl rfl (m_add l E σ21 _ a5.2.2 (by (try simp only [List.length_append, byl_len, List.length_nil]); decide) (nI (co_sz O cnt))) (cwV 1 S.2.2.2.2 gX6_write_X6_add rfl rfl rfl (by decide +kernel) ⟨Nat.le_of_ble_eq_true rfl, Nat.le_of_ble_eq_true rfl⟩) rfl rfl (Nat.le_of_ble_eq_true rfl) ⟨Nat.zero_le _, Nat.zero_le _⟩ dX6_write_61 (fun σ22 H locs b61 h => ?_)
  have a6 : mw_F [54, 55, 56, 57, 58] σ σ22 ∧ pu_eq 4 (σ22.1 57) (pu_key pw sa rd) ∧ mf σ22 ([86, 50] ++ byl sr.toInt64 4 ++ byl sa.toInt64 4 ++ byl (nI rd).toInt64 1 ++ byl (nI (co_sz O cnt)).toInt64 1) := ⟨a5.1.trans (b61.1.mono (by decide)), by rw [b61.1.1 57 (by decide)]; exact a5.2.1, b61.2⟩
  refine lv_aload_n S.1 S.2.1 dX6_write_64 rfl (lv_at hl 1 rfl) ?_
  refine lv_iload_n S.1 S.2.1 dX6_write_65 rfl (lv_at hl 0 rfl) ?_
  refine lv_bipush (v := 8) S.1 S.2.1 dX6_write_66 (by decide) ?_
  refine lv_ishr S.1 S.2.1 dX6_write_68 ?_
  refine cv_callv (ci := 6) (C := RX6) (T := TX6) (N := 18) S K h hl.1 rfl rfl rfl (m_add l E σ22 _ a6.2.2 (by (try simp only [List.length_append, byl_len, List.length_nil]); decide) (nI (co_sz O cnt) >>> ((8 : Int32) &&& 31))) (cwV 1 S.2.2.2.2 gX6_write_X6_add rfl rfl rfl (by decide +kernel) ⟨Nat.le_of_ble_eq_true rfl, Nat.le_of_ble_eq_true rfl⟩) rfl rfl (Nat.le_of_ble_eq_true rfl) ⟨Nat.zero_le _, Nat.zero_le _⟩ dX6_write_69 (fun σ23 H locs b69 h => ?_)
  have a7 : mw_F [54, 55, 56, 57, 58] σ σ23 ∧ pu_eq 4 (σ23.1 57) (pu_key pw sa rd) ∧ mf σ23 ([86, 50] ++ byl sr.toInt64 4 ++ byl sa.toInt64 4 ++ byl (nI rd).toInt64 1 ++ byl (nI (co_sz O cnt)).toInt64 1 ++ byl (nI (co_sz O cnt) >>> ((8 : Int32) &&& 31)).toInt64 1) := ⟨a6.1.trans (b69.1.mono (by decide)), by rw [b69.1.1 57 (by decide)]; exact a6.2.1, b69.2⟩
  have b1 : mf σ23 (fl_h sa sr rd (co_sz O cnt)) := by
    have g := a7.2.2
    rw [List.append_assoc _ _ (byl _ 1), byl_n2] at g
    exact g
  refine lv_aload_n S.1 S.2.1 dX6_write_72 rfl (lv_at hl 1 rfl) ?_
  refine lv_bipush (v := 13) S.1 S.2.1 dX6_write_73 (by decide) ?_
  refine lv_iconst (v := 3) S.1 S.2.1 dX6_write_75 (by decide) ?_
  refine cv_callv (ci := 6) (C := RX6) (T := TX6) (N := 18) S K h hl.1 rfl rfl rfl (m_addSeal l E σ23 _ b1 13 (fl_h_len _ _ _ _) (by decide) 3) (cwV 2 S.2.2.2.2 gX6_write_X6_addSeal rfl rfl rfl (by decide +kernel) ⟨Nat.le_of_ble_eq_true rfl, Nat.le_of_ble_eq_true rfl⟩) rfl rfl (Nat.le_of_ble_eq_true rfl) ⟨Nat.zero_le _, Nat.zero_le _⟩ dX6_write_76 (fun σ24 H locs hs1 h => ?_)
  have c0 : mw_F [54, 55, 56, 57, 58] σ σ24 ∧ pu_eq 4 (σ24.1 57) (pu_key pw sa rd) ∧ mf σ24 (fl_1 (pu_key pw sa rd) sa sr rd (co_sz O cnt)) := by
    refine ⟨a7.1.trans (hs1.1.mono (by decide)), by rw [hs1.1.1 57 (by decide)]; exact a7.2.1, ?_⟩
    have g := hs1.2
    rw [pu_sl_eq a7.2.1 pu_eq.rf 3] at g
    exact g
  refine lv_aload_n S.1 S.2.1 dX6_write_79 rfl (lv_at hl 1 rfl) ?_
  refine lv_aload_n S.1 S.2.1 dX6_write_80 rfl (lv_at hl 1 rfl) ?_
  refine cv_gf (ci := 6) (C := RX6) (T := TX6) (N := 18) (v := .int (σ24.2.2.1 49 8)) S K h 49 rfl hinX6 rfl rfl 8 (by decide) hf_78 rfl rfl dX6_write_81 ?_
  refine cv_rei (show (σ24.2.2.1 49 8) = nI cnt from by rw [c0.1.2.2.1 49 8 (Or.inr (by decide))]; exact hR.1) ?_
  refine cv_callv (ci := 6) (C := RX6) (T := TX6) (N := 18) S K h hl.1 rfl rfl rfl (m_add l E σ24 _ c0.2.2 (by rw [fl_1_len]; decide) (nI cnt)) (cwV 1 S.2.2.2.2 gX6_write_X6_add rfl rfl rfl (by decide +kernel) ⟨Nat.le_of_ble_eq_true rfl, Nat.le_of_ble_eq_true rfl⟩) rfl rfl (Nat.le_of_ble_eq_true rfl) ⟨Nat.zero_le _, Nat.zero_le _⟩ dX6_write_84 (fun σ25 H locs hq8 h => ?_)
  have c1_ : mw_F [54, 55, 56, 57, 58] σ σ25 ∧ pu_eq 4 (σ25.1 57) (pu_key pw sa rd) ∧ mf σ25 (fl_1 (pu_key pw sa rd) sa sr rd (co_sz O cnt) ++ co_l N O V cnt 0) := ⟨c0.1.trans (hq8.1.mono (by decide)), by rw [hq8.1.1 57 (by decide)]; exact c0.2.1, hq8.2⟩
  refine lv_iconst (v := 0) S.1 S.2.1 dX6_write_87 (by decide) ?_
  refine lv_istore_n (lv' := [(3, .int 0), (2, .int (nI (co_sz O cnt))), (0, .ref (E.2.1 49)), (1, .int sr)]) S.1 S.2.1 dX6_write_88 rfl hl (by decide) rfl (fun ls hl => ?_)
  refine cv_loop (α := Unit) (nL := 5) cnt (fun i a τ => mw_F [54, 55, 56, 57, 58] σ τ ∧ pu_eq 4 (τ.1 57) (pu_key pw sa rd) ∧ mf τ (fl_1 (pu_key pw sa rd) sa sr rd (co_sz O cnt) ++ co_l N O V cnt i)) (fun i a => [(3, .int (nI i)), (2, .int (nI (co_sz O cnt))), (0, .ref (E.2.1 49)), (1, .int sr)]) ?_ ?_ 0 () σ25 _ _ _ (by omega) (c1_) h hl
  · intro i a τ H locs ls hi hI h hl ih
    have hl : lv_has ls 5 [(3, .int (nI i)), (2, .int (nI (co_sz O cnt))), (0, .ref (E.2.1 49)), (1, .int sr)] := hl
    obtain ⟨g1, g2, g3⟩ := hI
    obtain ⟨n1, n2, n3, n4⟩ := hR.2.2 i hi
    have h8 := hR.2.1
    have hmi := co_mon O cnt i (Nat.le_of_lt hi)
    rw [if_pos hi] at hmi
    refine lv_iload_n S.1 S.2.1 dX6_write_89 rfl (lv_at hl 0 rfl) ?_
    refine lv_aload_n S.1 S.2.1 dX6_write_90 rfl (lv_at hl 2 rfl) ?_
    refine cv_gf (ci := 6) (C := RX6) (T := TX6) (N := 18) (v := .int (τ.2.2.1 49 8)) S K h 49 rfl hinX6 rfl rfl 8 (by decide) hf_78 rfl rfl dX6_write_91 ?_
    refine lv_icmp_ge (tgt := 158) S.1 S.2.1 dX6_write_94 (by decide) (fun c1 => ?_) (fun c1 => ?_)
    · rw [g1.2.2.1 49 8 (Or.inr (by decide)), hR.1] at c1
      exact absurd c1 (nI_ge hi (by omega))
    · refine lv_aload_n S.1 S.2.1 dX6_write_97 rfl (lv_at hl 2 rfl) ?_
      refine lv_aload_n S.1 S.2.1 dX6_write_98 rfl (lv_at hl 2 rfl) ?_
      refine cv_gf (ci := 6) (C := RX6) (T := TX6) (N := 18) (v := .ref (E.2.1 51)) S K h 49 rfl hinX6 rfl rfl 9 (by decide) hf_13 rfl rfl dX6_write_99 ?_
      refine lv_iload_n S.1 S.2.1 dX6_write_102 rfl (lv_at hl 0 rfl) ?_
      refine cv_lald S K h 51 rfl (n := 8) rfl i rfl (by omega) dX6_write_103 ?_
      refine cv_rel (show (τ.2.1 51 i) = N i from by rw [g1.2.1]; exact n1) ?_
      refine cv_callv (ci := 6) (C := RX6) (T := TX6) (N := 18) S K h hl.1 rfl rfl rfl (m_addLong l E τ _ g3 (by rw [List.length_append, fl_1_len, co_l_len]; omega) (N i)) (cwV 1 S.2.2.2.2 gX6_write_X6_addLong rfl rfl rfl (by decide +kernel) ⟨Nat.le_of_ble_eq_true rfl, Nat.le_of_ble_eq_true rfl⟩) rfl rfl (Nat.le_of_ble_eq_true rfl) ⟨Nat.zero_le _, Nat.zero_le _⟩ dX6_write_104 (fun σ26 H locs p1_ h => ?_)
      refine lv_aload_n S.1 S.2.1 dX6_write_107 rfl (lv_at hl 2 rfl) ?_
      refine lv_aload_n S.1 S.2.1 dX6_write_108 rfl (lv_at hl 2 rfl) ?_
      refine cv_gf (ci := 6) (C := RX6) (T := TX6) (N := 18) (v := .ref (E.2.1 52)) S K h 49 rfl hinX6 rfl rfl 10 (by decide) hf_17 rfl rfl dX6_write_109 ?_
      refine lv_iload_n S.1 S.2.1 dX6_write_112 rfl (lv_at hl 0 rfl) ?_
      refine cv_iald S K h 52 rfl (n := 8) rfl i rfl (by omega) dX6_write_113 ?_
      refine cv_rei (show (σ26.1 52 i) = nI (O i) from by rw [p1_.1.1 52 (by decide), g1.1 52 (by decide)]; exact n2) ?_
      refine cv_callv (ci := 6) (C := RX6) (T := TX6) (N := 18) S K h hl.1 rfl rfl rfl (m_add l E σ26 _ p1_.2 (by rw [List.length_append, List.length_append, fl_1_len, co_l_len, byl_len]; omega) (nI (O i))) (cwV 1 S.2.2.2.2 gX6_write_X6_add rfl rfl rfl (by decide +kernel) ⟨Nat.le_of_ble_eq_true rfl, Nat.le_of_ble_eq_true rfl⟩) rfl rfl (Nat.le_of_ble_eq_true rfl) ⟨Nat.zero_le _, Nat.zero_le _⟩ dX6_write_114 (fun σ27 H locs p2_ h => ?_)
      refine lv_iconst (v := 0) S.1 S.2.1 dX6_write_117 (by decide) ?_
      refine lv_istore (lv' := [(4, .int 0), (3, .int (nI i)), (2, .int (nI (co_sz O cnt))), (0, .ref (E.2.1 49)), (1, .int sr)]) S.1 S.2.1 dX6_write_118 hl (by decide) rfl (fun ls hl => ?_)
      have hst2 : mw_F [54, 55, 56, 57, 58] σ σ27 ∧ pu_eq 4 (σ27.1 57) (pu_key pw sa rd) ∧ mf σ27 (fl_1 (pu_key pw sa rd) sa sr rd (co_sz O cnt) ++ (co_l N O V cnt i ++ (byl (N i) 8 ++ byl (nI (O i)).toInt64 1 ++ co_vals (V i) 0))) := by
        refine ⟨g1.trans ((p1_.1.mono (by decide)).trans (p2_.1.mono (by decide))), by rw [p2_.1.1 57 (by decide), p1_.1.1 57 (by decide)]; exact g2, ?_⟩
        have g := p2_.2
        show mf _ (_ ++ (_ ++ (_ ++ [])))
        rw [List.append_nil]
        simpa only [List.append_assoc] using g
      refine cv_loop (α := Unit) (nL := 5) (O i + 1) (fun j _ τ => mw_F [54, 55, 56, 57, 58] σ τ ∧ pu_eq 4 (τ.1 57) (pu_key pw sa rd) ∧ mf τ (fl_1 (pu_key pw sa rd) sa sr rd (co_sz O cnt) ++ (co_l N O V cnt i ++ (byl (N i) 8 ++ byl (nI (O i)).toInt64 1 ++ co_vals (V i) j)))) (fun j _ => [(4, .int (nI j)), (3, .int (nI i)), (2, .int (nI (co_sz O cnt))), (0, .ref (E.2.1 49)), (1, .int sr)]) ?_ ?_ 0 () σ27 _ _ _ (by omega) hst2 h hl
      · intro j _ ρ H locs ls hj hJ h hl jh
        have hl : lv_has ls 5 [(4, .int (nI j)), (3, .int (nI i)), (2, .int (nI (co_sz O cnt))), (0, .ref (E.2.1 49)), (1, .int sr)] := hl
        obtain ⟨j1, j2, j3⟩ := hJ
        refine lv_iload S.1 S.2.1 dX6_write_120 (lv_at hl 0 rfl) ?_
        refine lv_aload_n S.1 S.2.1 dX6_write_122 rfl (lv_at hl 3 rfl) ?_
        refine cv_gf (ci := 6) (C := RX6) (T := TX6) (N := 18) (v := .ref (E.2.1 52)) S K h 49 rfl hinX6 rfl rfl 10 (by decide) hf_17 rfl rfl dX6_write_123 ?_
        refine lv_iload_n S.1 S.2.1 dX6_write_126 rfl (lv_at hl 1 rfl) ?_
        refine cv_iald S K h 52 rfl (n := 8) rfl i rfl (by omega) dX6_write_127 ?_
        refine cv_rei (show (ρ.1 52 i) = nI (O i) from by rw [j1.1 52 (by decide)]; exact n2) ?_
        refine lv_icmp_gt (tgt := 152) S.1 S.2.1 dX6_write_128 (by decide) (fun c2 => ?_) (fun c2 => ?_)
        · exact absurd c2 (nI_nlt (by omega) (by omega))
        · refine lv_aload_n S.1 S.2.1 dX6_write_131 rfl (lv_at hl 3 rfl) ?_
          refine lv_aload_n S.1 S.2.1 dX6_write_132 rfl (lv_at hl 3 rfl) ?_
          refine cv_gf (ci := 6) (C := RX6) (T := TX6) (N := 18) (v := .ref (E.2.1 53)) S K h 49 rfl hinX6 rfl rfl 11 (by decide) hf_20 rfl rfl dX6_write_133 ?_
          refine lv_iconst (v := 3) S.1 S.2.1 dX6_write_136 (by decide) ?_
          refine lv_iload_n S.1 S.2.1 dX6_write_137 rfl (lv_at hl 1 rfl) ?_
          refine lv_imul S.1 S.2.1 dX6_write_138 ?_
          refine cv_rei (show (3 * ((nI i))) = nI (3 * i) from pk_mul 3 i) ?_
          refine lv_iload S.1 S.2.1 dX6_write_139 (lv_at hl 0 rfl) ?_
          refine lv_iadd S.1 S.2.1 dX6_write_141 ?_
          refine cv_rei (show (((nI (3 * i))) + ((nI j))) = nI (3 * i + j) from nI_add _ _) ?_
          refine cv_lald S K h 53 rfl (n := 24) rfl (3 * i + j) rfl (by omega) dX6_write_142 ?_
          refine cv_rel (show (ρ.2.1 53 (3 * i + j)) = V i j from by rw [j1.2.1]; exact n4 j (by omega)) ?_
          refine cv_callv (ci := 6) (C := RX6) (T := TX6) (N := 18) S K h hl.1 rfl rfl rfl (m_addLong l E ρ _ j3 (by simp only [List.length_append, fl_1_len, co_l_len, byl_len, co_vals_len]; omega) (V i j)) (cwV 1 S.2.2.2.2 gX6_write_X6_addLong rfl rfl rfl (by decide +kernel) ⟨Nat.le_of_ble_eq_true rfl, Nat.le_of_ble_eq_true rfl⟩) rfl rfl (Nat.le_of_ble_eq_true rfl) ⟨Nat.zero_le _, Nat.zero_le _⟩ dX6_write_143 (fun σ28 H locs p3_ h => ?_)
          obtain ⟨z5, ez5⟩ : ∃ y : Int32, y = ((nI j)) + 1 := ⟨_, rfl⟩
          refine lv_iinc (v := z5) (lv' := [(4, .int z5), (3, .int (nI i)), (2, .int (nI (co_sz O cnt))), (0, .ref (E.2.1 49)), (1, .int sr)]) S.1 S.2.1 dX6_write_146 hl (k := 0) rfl (by rw [ez5]; rfl) (by decide) rfl (fun ls hl => ?_)
          refine lv_goto (tgt := 120) S.1 S.2.1 dX6_write_149 (by decide) ?_
          rw [ez5, nI_1] at hl
          refine jh () σ28 H locs ls ⟨j1.trans (p3_.1.mono (by decide)), by rw [p3_.1.1 57 (by decide)]; exact j2, ?_⟩ h hl
          have g := p3_.2
          show mf _ (_ ++ (_ ++ (_ ++ (co_vals (V i) j ++ byl (V i j) 8))))
          simpa only [List.append_assoc] using g
      · intro _ ρ H locs ls hJ h hl
        have hl : lv_has ls 5 [(4, .int (nI (O i + 1))), (3, .int (nI i)), (2, .int (nI (co_sz O cnt))), (0, .ref (E.2.1 49)), (1, .int sr)] := hl
        obtain ⟨j1, j2, j3⟩ := hJ
        refine lv_iload S.1 S.2.1 dX6_write_120 (lv_at hl 0 rfl) ?_
        refine lv_aload_n S.1 S.2.1 dX6_write_122 rfl (lv_at hl 3 rfl) ?_
        refine cv_gf (ci := 6) (C := RX6) (T := TX6) (N := 18) (v := .ref (E.2.1 52)) S K h 49 rfl hinX6 rfl rfl 10 (by decide) hf_17 rfl rfl dX6_write_123 ?_
        refine lv_iload_n S.1 S.2.1 dX6_write_126 rfl (lv_at hl 1 rfl) ?_
        refine cv_iald S K h 52 rfl (n := 8) rfl i rfl (by omega) dX6_write_127 ?_
        refine cv_rei (show (ρ.1 52 i) = nI (O i) from by rw [j1.1 52 (by decide)]; exact n2) ?_
        refine lv_icmp_gt (tgt := 152) S.1 S.2.1 dX6_write_128 (by decide) (fun c2 => ?_) (fun c2 => ?_)
        · obtain ⟨z4, ez4⟩ : ∃ y : Int32, y = ((nI i)) + 1 := ⟨_, rfl⟩
          refine lv_iinc (v := z4) (lv' := [(3, .int z4), (4, .int (nI (O i + 1))), (2, .int (nI (co_sz O cnt))), (0, .ref (E.2.1 49)), (1, .int sr)]) S.1 S.2.1 dX6_write_152 hl (k := 1) rfl (by rw [ez4]; rfl) (by decide) rfl (fun ls hl => ?_)
          refine lv_goto (tgt := 89) S.1 S.2.1 dX6_write_155 (by decide) ?_
          rw [ez4, nI_1] at hl
          exact ih () ρ H locs ls ⟨j1, j2, j3⟩ h (lv_sub hl [0, 2, 3, 4] rfl)
        · exact absurd (nI_lt (Nat.lt_succ_self _) (by omega)) c2
  · intro a τ H locs ls hI h hl
    have hl : lv_has ls 5 [(3, .int (nI cnt)), (2, .int (nI (co_sz O cnt))), (0, .ref (E.2.1 49)), (1, .int sr)] := hl
    obtain ⟨g1, g2, g3⟩ := hI
    refine lv_iload_n S.1 S.2.1 dX6_write_89 rfl (lv_at hl 0 rfl) ?_
    refine lv_aload_n S.1 S.2.1 dX6_write_90 rfl (lv_at hl 2 rfl) ?_
    refine cv_gf (ci := 6) (C := RX6) (T := TX6) (N := 18) (v := .int (τ.2.2.1 49 8)) S K h 49 rfl hinX6 rfl rfl 8 (by decide) hf_78 rfl rfl dX6_write_91 ?_
    refine lv_icmp_ge (tgt := 158) S.1 S.2.1 dX6_write_94 (by decide) (fun c1 => ?_) (fun c1 => ?_)
    · refine lv_aload_n S.1 S.2.1 dX6_write_158 rfl (lv_at hl 2 rfl) ?_
      refine lv_iload_n S.1 S.2.1 dX6_write_159 rfl (lv_at hl 1 rfl) ?_
      refine lv_iload_n S.1 S.2.1 dX6_write_160 rfl (lv_at hl 3 rfl) ?_
      refine cv_callv (ci := 6) (C := RX6) (T := TX6) (N := 18) S K h hl.1 rfl rfl rfl (m_cover l E τ (co_sz O cnt) (by omega) sr) (cwV 2 S.2.2.2.2 gX6_write_X6_cover rfl rfl rfl (by decide +kernel) ⟨Nat.le_of_ble_eq_true rfl, Nat.le_of_ble_eq_true rfl⟩) rfl rfl (Nat.le_of_ble_eq_true rfl) ⟨Nat.zero_le _, Nat.zero_le _⟩ dX6_write_161 (fun σ29 H locs hy h => ?_)
      have d0 : mw_F [54, 55, 56, 57, 58] σ σ29 ∧ pu_eq 4 (σ29.1 57) (pu_key pw sa rd) ∧ mf σ29 (fl_2 (pu_key pw sa rd) sa sr rd (co_l N O V cnt cnt)) := by
        refine ⟨g1.trans ((mw_fr hy.1).mono (by decide)), by rw [hy.1.1 57 (by decide)]; exact g2, ?_, ?_⟩
        · rw [hy.2, ← hCl]
          rw [← hCl] at g3
          have g := rh_hide (k := τ.1 57) (sr := sr) g3.1 (fl_1_len _ _ _ _ _).symm
          rw [fl_x_eq g2] at g
          exact g
        · rw [hy.1.2, g3.2, List.length_append, fl_1_len, fl_2_len, co_l_len]
      refine lv_aload_n S.1 S.2.1 dX6_write_164 rfl (lv_at hl 2 rfl) ?_
      refine lv_bipush (v := 21) S.1 S.2.1 dX6_write_165 (by decide) ?_
      refine lv_iload_n S.1 S.2.1 dX6_write_167 rfl (lv_at hl 1 rfl) ?_
      refine lv_iadd S.1 S.2.1 dX6_write_168 ?_
      refine cv_rei (show (21 + ((nI (co_sz O cnt)))) = nI (21 + co_sz O cnt) from nI_add 21 _) ?_
      refine lv_iconst (v := 4) S.1 S.2.1 dX6_write_169 (by decide) ?_
      refine cv_callv (ci := 6) (C := RX6) (T := TX6) (N := 18) S K h hl.1 rfl rfl rfl (m_addSeal l E σ29 _ d0.2.2 (21 + co_sz O cnt) (by rw [fl_2_len, hCl]) (by omega) 4) (cwV 2 S.2.2.2.2 gX6_write_X6_addSeal rfl rfl rfl (by decide +kernel) ⟨Nat.le_of_ble_eq_true rfl, Nat.le_of_ble_eq_true rfl⟩) rfl rfl (Nat.le_of_ble_eq_true rfl) ⟨Nat.zero_le _, Nat.zero_le _⟩ dX6_write_170 (fun σ30 H locs hs2 h => ?_)
      refine cv_vret S hr hlk hsz h ⟨d0.1.trans (hs2.1.mono (by decide)), ?_⟩ dX6_write_173
      have g := hs2.2
      rw [pu_sl_eq d0.2.1 pu_eq.rf 4, ← hCl] at g
      exact g
    · rw [g1.2.2.1 49 8 (Or.inr (by decide)), hR.1] at c1
      exact absurd (Int32.le_refl _) c1
