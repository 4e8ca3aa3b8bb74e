/-! 26: FileForm: fileBytes, writeFile -/
theorem el_R_fr {S : List Nat} {σ τ : cv_S} {v cnt : Nat} {N : Nat → Int64} {O : Nat → Nat} {V : Nat → Nat → Int64} (h : cv_fr S σ τ) (hv : v + 19 ∉ S) (hR : el_R σ v cnt N O V) : el_R τ v cnt N O V := by
  obtain ⟨q1, q2, q3⟩ := hR
  refine ⟨by rw [h.2]; exact q1, q2, fun i hi => ?_⟩
  rw [h.2, h.1 _ hv]
  exact q3 i hi
theorem rh_cat {f : Nat → Int32} {A C : List Nat} {a : Nat} (ha : a = A.length) (h : rh f 0 A) (h2 : rh f a C) : rh f 0 (A ++ C) := by
  subst ha
  intro j hj
  rw [List.length_append] at hj
  by_cases hl : j < A.length
  · rw [ld_l hl]; exact h j hl
  · rw [ld_r (by omega)]
    have := h2 (j - A.length) (by omega)
    rw [show A.length + (j - A.length) = j by omega] at this
    rw [Nat.zero_add]
    exact this
theorem fl_x_eq {k k' : Nat → Int32} (hk : pu_eq 4 k k') (sr : Int32) (C : List Nat) : fl_x k sr C = fl_x k' sr C := by
  unfold fl_x
  refine List.map_congr_left (fun j _ => ?_)
  rw [stn_eq hk]

set_option maxHeartbeats 4000000 in
set_option maxRecDepth 100000 in
/-- how many bytes the file has -/
theorem c_fileBytes (l : Launch) (E : cv_E) (σ : cv_S) (v : Nat) (hv : v < 3) (cnt : Nat) (N : Nat → Int64) (O : Nat → Nat) (V : Nat → Nat → Int64) (hR : el_R σ v cnt N O V) : cv_Mi l E yX3_fileBytes wsX3_fileBytes (cv_R 2) [.ref (E.2.1 2), .ref (E.2.1 (v + 10))] σ (fun r τ => r = nI (29 + co_sz O cnt) ∧ τ = σ) := by
  intro sz
  refine cv_in (ws := wsX3_fileBytes) (cc := cX3_fileBytes) (maxL := 2) (ret := (some .int)) (own := RX3) rfl (by decide) rfl (Nat.le_of_ble_eq_true rfl) ?_
  intro p e s m below meth c S K hr hlk hsz h ls hl
  have hl : lv_has ls 2 [(0, .ref (E.2.1 2)), (1, .ref (E.2.1 (v + 10)))] := hl
  have hinX4 : ∀ w ∈ u_ws RX4 TX4 5, w ∈ wsX3_fileBytes := by decide +kernel
  refine lv_bipush (v := 21) S.1 S.2.1 dX3_fileBytes_0 (by decide) ?_
  refine lv_aload_n S.1 S.2.1 dX3_fileBytes_2 rfl (lv_at hl 1 rfl) ?_
  refine cv_gfN (ci := 4) (C := RX4) (T := TX4) (N := 5) (v := .ref (E.2.1 (v + 13))) S K h (v + 10) (cv_kdV v hv).1 hinX4 (cv_fsV hv) rfl 0 (by decide) (cv_nest_13 K) rfl rfl dX3_fileBytes_3 ?_
  refine cv_calli (ci := 2) (C := RX2) (T := TX2) (N := 4) S K h hl.1 (cv_kdV v hv).2.1 (cv_fsL hv) rfl (c_contentBytes l E σ v hv cnt N O V hR) (cwV 0 S.2.2.2.2 gX3_fileBytes_X2_contentBytes rfl rfl rfl (by decide +kernel) ⟨Nat.le_of_ble_eq_true rfl, Nat.le_of_ble_eq_true rfl⟩) rfl rfl (Nat.le_of_ble_eq_true rfl) ⟨Nat.zero_le _, Nat.zero_le _⟩ dX3_fileBytes_6 (fun nb σ1 H locs ⟨hnb, hs9⟩ h => ?_)
  rw [hs9] at h
  subst hnb
  refine lv_iadd S.1 S.2.1 dX3_fileBytes_9 ?_
  refine lv_bipush (v := 8) S.1 S.2.1 dX3_fileBytes_10 (by decide) ?_
  refine lv_iadd S.1 S.2.1 dX3_fileBytes_12 ?_
  refine cv_rei (show (((21 + ((nI (co_sz O cnt))))) + 8) = nI (29 + co_sz O cnt) from by rw [show (21 : Int32) + nI (co_sz O cnt) = nI (21 + co_sz O cnt) from nI_add 21 _, show nI (21 + co_sz O cnt) + 8 = nI (21 + co_sz O cnt + 8) from nI_add _ 8]; congr 1; omega) ?_
  exact cv_iret S hr hlk hsz h ⟨rfl, rfl⟩ dX3_fileBytes_13

set_option maxHeartbeats 4000000 in
set_option maxRecDepth 100000 in
/-- the file of the vault v is written into the row -/
theorem c_writeFile (l : Launch) (E : cv_E) (σ : cv_S) (v : Nat) (hv : v < 3) (cnt : Nat) (N : Nat → Int64) (O : Nat → Nat) (V : Nat → Nat → Int64) (hR : el_R σ v cnt N O V) (pw : Int64) (sa sr : Int32) (rd : Nat) (hrd40 : rd ≤ 40) (hpw : σ.2.2.2 (v + 10) 1 = pw) (hsa : σ.2.2.1 (v + 10) 2 = sa) (hrd : σ.2.2.1 (v + 10) 3 = nI rd) (hsr : σ.2.2.1 (v + 10) 4 = sr) : cv_Mi l E yX3_writeFile wsX3_writeFile (cv_R 5) [.ref (E.2.1 2), .ref (E.2.1 (v + 10))] σ (fun r τ => r = nI (29 + co_sz O cnt) ∧ cv_fr [4, 5, 6, 7, 9] σ τ ∧ rh (τ.1 9) 0 (fl pw sa sr rd (co_l N O V cnt cnt))) := by
  intro sz
  refine cv_in (ws := wsX3_writeFile) (cc := cX3_writeFile) (maxL := 4) (ret := (some .int)) (own := RX3) rfl (by decide) rfl (Nat.le_of_ble_eq_true rfl) ?_
  intro p e s m below meth c S K hr hlk hsz h ls hl
  have hl : lv_has ls 4 [(0, .ref (E.2.1 2)), (1, .ref (E.2.1 (v + 10)))] := hl
  have hinX0 : ∀ w ∈ u_ws RX0 TX0 1, w ∈ wsX3_writeFile := by decide +kernel
  have hinX3 : ∀ w ∈ u_ws RX3 TX3 2, w ∈ wsX3_writeFile := by decide +kernel
  have hinX4 : ∀ w ∈ u_ws RX4 TX4 5, w ∈ wsX3_writeFile := by decide +kernel
  have hf_14 := S.2.2.2.2 (.fieldLink RX3 14 "CrashVault$FileForm" "cipher" "LCrashVault$Cipher;") (by decide +kernel)
  have hf_21 := S.2.2.2.2 (.fieldLink RX3 21 "CrashVault$FileForm" "row" "LCrashVault$ByteRow;") (by decide +kernel)
  have hCl : (co_l N O V cnt cnt).length = co_sz O cnt := co_l_len N O V cnt cnt
  have hn8 : co_sz O cnt ≤ 265 := by
    have h1 := co_sz_le (n := cnt) (fun i hi => (hR.2.2 i hi).2.2.1)
    have h2 := hR.2.1
    omega
  refine lv_aload_n S.1 S.2.1 dX3_writeFile_0 rfl (lv_at hl 1 rfl) ?_
  refine cv_gfN (ci := 4) (C := RX4) (T := TX4) (N := 5) (v := .ref (E.2.1 (v + 13))) S K h (v + 10) (cv_kdV v hv).1 hinX4 (cv_fsV hv) rfl 0 (by decide) (cv_nest_13 K) rfl rfl dX3_writeFile_1 ?_
  refine cv_calli (ci := 2) (C := RX2) (T := TX2) (N := 4) S K h hl.1 (cv_kdV v hv).2.1 (cv_fsL hv) rfl (c_contentBytes l E σ v hv cnt N O V hR) (cwV 0 S.2.2.2.2 gX3_writeFile_X2_contentBytes rfl rfl rfl (by decide +kernel) ⟨Nat.le_of_ble_eq_true rfl, Nat.le_of_ble_eq_true rfl⟩) rfl rfl (Nat.le_of_ble_eq_true rfl) ⟨Nat.zero_le _, Nat.zero_le _⟩ dX3_writeFile_4 (fun nb σ2 H locs ⟨hnb, hs9⟩ h => ?_)
  rw [hs9] at h
  subst hnb
  refine lv_istore_n (lv' := [(2, .int (nI (co_sz O cnt))), (0, .ref (E.2.1 2)), (1, .ref (E.2.1 (v + 10)))]) S.1 S.2.1 dX3_writeFile_7 rfl hl (by decide) rfl (fun ls hl => ?_)
  refine lv_bipush (v := 21) S.1 S.2.1 dX3_writeFile_8 (by decide) ?_
  refine lv_iload_n S.1 S.2.1 dX3_writeFile_10 rfl (lv_at hl 0 rfl) ?_
  refine lv_iadd S.1 S.2.1 dX3_writeFile_11 ?_
  refine cv_rei (show (21 + ((nI (co_sz O cnt)))) = nI (21 + co_sz O cnt) from nI_add 21 _) ?_
  refine lv_istore_n (lv' := [(3, .int (nI (21 + co_sz O cnt))), (2, .int (nI (co_sz O cnt))), (0, .ref (E.2.1 2)), (1, .ref (E.2.1 (v + 10)))]) S.1 S.2.1 dX3_writeFile_12 rfl hl (by decide) rfl (fun ls hl => ?_)
  refine lv_aload_n S.1 S.2.1 dX3_writeFile_13 rfl (lv_at hl 2 rfl) ?_
  refine cv_gf (ci := 3) (C := RX3) (T := TX3) (N := 2) (v := .ref (E.2.1 8)) S K h 2 rfl hinX3 rfl rfl 1 (by decide) hf_21 rfl rfl dX3_writeFile_14 ?_
  refine cv_gfN (ci := 0) (C := RX0) (T := TX0) (N := 1) (v := .ref (E.2.1 9)) S K h 8 rfl hinX0 rfl rfl 0 (by decide) (cv_nest_14 K) rfl rfl dX3_writeFile_17 ?_
  refine lv_iconst (v := 0) S.1 S.2.1 dX3_writeFile_20 (by decide) ?_
  refine lv_bipush (v := 86) S.1 S.2.1 dX3_writeFile_21 (by decide) ?_
  refine cv_iast (x := 86) S K h 9 rfl (n := 300) rfl 0 rfl (by decide) dX3_writeFile_23 (fun σ3 H locs eσ3 h => ?_)
  refine lv_aload_n S.1 S.2.1 dX3_writeFile_24 rfl (lv_at hl 2 rfl) ?_
  refine cv_gf (ci := 3) (C := RX3) (T := TX3) (N := 2) (v := .ref (E.2.1 8)) S K h 2 rfl hinX3 rfl rfl 1 (by decide) hf_21 rfl rfl dX3_writeFile_25 ?_
  refine cv_gfN (ci := 0) (C := RX0) (T := TX0) (N := 1) (v := .ref (E.2.1 9)) S K h 8 rfl hinX0 rfl rfl 0 (by decide) (cv_nest_14 K) rfl rfl dX3_writeFile_28 ?_
  refine lv_iconst (v := 1) S.1 S.2.1 dX3_writeFile_31 (by decide) ?_
  refine lv_bipush (v := 50) S.1 S.2.1 dX3_writeFile_32 (by decide) ?_
  refine cv_iast (x := 50) S K h 9 rfl (n := 300) rfl 1 rfl (by decide) dX3_writeFile_34 (fun σ4 H locs eσ4 h => ?_)
  have f0 : cv_fr [4, 5, 6, 7, 9] σ σ4 ∧ rh (σ4.1 9) 0 [86, 50] := by
    rw [eσ4, eσ3]
    exact ⟨(cv_fr.up (by decide)).trans (cv_fr.up (by decide)), by simp only [cv_I1, if_true]; exact rh_upd (rh_upd (rh_nil _ 0) rfl rfl (by decide)) rfl rfl (by decide)⟩
  refine lv_aload_n S.1 S.2.1 dX3_writeFile_35 rfl (lv_at hl 2 rfl) ?_
  refine cv_gf (ci := 3) (C := RX3) (T := TX3) (N := 2) (v := .ref (E.2.1 8)) S K h 2 rfl hinX3 rfl rfl 1 (by decide) hf_21 rfl rfl dX3_writeFile_36 ?_
  refine lv_iconst (v := 2) S.1 S.2.1 dX3_writeFile_39 (by decide) ?_
  refine lv_aload_n S.1 S.2.1 dX3_writeFile_40 rfl (lv_at hl 3 rfl) ?_
  refine cv_gfN (ci := 4) (C := RX4) (T := TX4) (N := 5) (v := .int (σ4.2.2.1 (v + 10) 4)) S K h (v + 10) (cv_kdV v hv).1 hinX4 (cv_fsV hv) rfl 4 (by decide) (cv_nest_15 K) rfl rfl dX3_writeFile_41 ?_
  refine cv_rei (show (σ4.2.2.1 (v + 10) 4) = sr from by rw [f0.1.2]; exact hsr) ?_
  refine lv_i2l (v := (sr : Int32).toInt64) S.1 S.2.1 dX3_writeFile_44 rfl ?_
  refine lv_iconst (v := 4) S.1 S.2.1 dX3_writeFile_45 (by decide) ?_
  refine cv_callv (ci := 0) (C := RX0) (T := TX0) (N := 1) S K h hl.1 rfl rfl rfl (c_setNumber l E σ4 2 4 sr.toInt64 (by decide)) (cwV 3 S.2.2.2.2 gX3_writeFile_X0_setNumber rfl rfl rfl (by decide +kernel) ⟨Nat.le_of_ble_eq_true rfl, Nat.le_of_ble_eq_true rfl⟩) rfl rfl (Nat.le_of_ble_eq_true rfl) ⟨Nat.zero_le _, Nat.zero_le _⟩ dX3_writeFile_46 (fun σ5 H locs hq0 h => ?_)
  have f1 : cv_fr [4, 5, 6, 7, 9] σ σ5 ∧ rh (σ5.1 9) 0 ([86, 50] ++ byl sr.toInt64 4) := by
    rw [hq0]
    exact ⟨f0.1.trans (cv_fr.up (by decide)), by rw [cv_I1, if_pos rfl]; exact rh_put f0.2 (by (try simp only [List.length_append, byl_len]); rfl) _ (by decide)⟩
  refine lv_aload_n S.1 S.2.1 dX3_writeFile_49 rfl (lv_at hl 2 rfl) ?_
  refine cv_gf (ci := 3) (C := RX3) (T := TX3) (N := 2) (v := .ref (E.2.1 8)) S K h 2 rfl hinX3 rfl rfl 1 (by decide) hf_21 rfl rfl dX3_writeFile_50 ?_
  refine lv_bipush (v := 6) S.1 S.2.1 dX3_writeFile_53 (by decide) ?_
  refine lv_aload_n S.1 S.2.1 dX3_writeFile_55 rfl (lv_at hl 3 rfl) ?_
  refine cv_gfN (ci := 4) (C := RX4) (T := TX4) (N := 5) (v := .int (σ5.2.2.1 (v + 10) 2)) S K h (v + 10) (cv_kdV v hv).1 hinX4 (cv_fsV hv) rfl 2 (by decide) (cv_nest_16 K) rfl rfl dX3_writeFile_56 ?_
  refine cv_rei (show (σ5.2.2.1 (v + 10) 2) = sa from by rw [f1.1.2]; exact hsa) ?_
  refine lv_i2l (v := (sa : Int32).toInt64) S.1 S.2.1 dX3_writeFile_59 rfl ?_
  refine lv_iconst (v := 4) S.1 S.2.1 dX3_writeFile_60 (by decide) ?_
  refine cv_callv (ci := 0) (C := RX0) (T := TX0) (N := 1) S K h hl.1 rfl rfl rfl (c_setNumber l E σ5 6 4 sa.toInt64 (by decide)) (cwV 3 S.2.2.2.2 gX3_writeFile_X0_setNumber rfl rfl rfl (by decide +kernel) ⟨Nat.le_of_ble_eq_true rfl, Nat.le_of_ble_eq_true rfl⟩) rfl rfl (Nat.le_of_ble_eq_true rfl) ⟨Nat.zero_le _, Nat.zero_le _⟩ dX3_writeFile_61 (fun σ6 H locs hq1 h => ?_)
  have f2 : cv_fr [4, 5, 6, 7, 9] σ σ6 ∧ rh (σ6.1 9) 0 ([86, 50] ++ byl sr.toInt64 4 ++ byl sa.toInt64 4) := by
    rw [hq1]
    exact ⟨f1.1.trans (cv_fr.up (by decide)), by rw [cv_I1, if_pos rfl]; exact rh_put f1.2 (by (try simp only [List.length_append, byl_len]); rfl) _ (by decide)⟩
  refine lv_aload_n S.1 S.2.1 dX3_writeFile_64 rfl (lv_at hl 2 rfl) ?_
  refine cv_gf (ci := 3) (C := RX3) (T := TX3) (N := 2) (v := .ref (E.2.1 8)) S K h 2 rfl hinX3 rfl rfl 1 (by decide) hf_21 rfl rfl dX3_writeFile_65 ?_
  refine lv_bipush (v := 10) S.1 S.2.1 dX3_writeFile_68 (by decide) ?_
  refine lv_aload_n S.1 S.2.1 dX3_writeFile_70 rfl (lv_at hl 3 rfl) ?_
  refine cv_gfN (ci := 4) (C := RX4) (T := TX4) (N := 5) (v := .int (σ6.2.2.1 (v + 10) 3)) S K h (v + 10) (cv_kdV v hv).1 hinX4 (cv_fsV hv) rfl 3 (by decide) (cv_nest_17 K) rfl rfl dX3_writeFile_71 ?_
  refine cv_rei (show (σ6.2.2.1 (v + 10) 3) = nI rd from by rw [f2.1.2]; exact hrd) ?_
  refine lv_i2l (v := ((nI rd) : Int32).toInt64) S.1 S.2.1 dX3_writeFile_74 rfl ?_
  refine lv_iconst (v := 1) S.1 S.2.1 dX3_writeFile_75 (by decide) ?_
  refine cv_callv (ci := 0) (C := RX0) (T := TX0) (N := 1) S K h hl.1 rfl rfl rfl (c_setNumber l E σ6 10 1 (nI rd).toInt64 (by decide)) (cwV 3 S.2.2.2.2 gX3_writeFile_X0_setNumber rfl rfl rfl (by decide +kernel) ⟨Nat.le_of_ble_eq_true rfl, Nat.le_of_ble_eq_true rfl⟩) rfl rfl (Nat.le_of_ble_eq_true rfl) ⟨Nat.zero_le _, Nat.zero_le _⟩ dX3_writeFile_76 (fun σ7 H locs hq2 h => ?_)
  have f3 : cv_fr [4, 5, 6, 7, 9] σ σ7 ∧ rh (σ7.1 9) 0 ([86, 50] ++ byl sr.toInt64 4 ++ byl sa.toInt64 4 ++ byl (nI rd).toInt64 1) := by
    rw [hq2]
    exact ⟨f2.1.trans (cv_fr.up (by decide)), by rw [cv_I1, if_pos rfl]; exact rh_put f2.2 (by (try simp only [List.length_append, byl_len]); rfl) _ (by decide)⟩
  refine lv_aload_n S.1 S.2.1 dX3_writeFile_79 rfl (lv_at hl 2 rfl) ?_
  refine cv_gf (ci := 3) (C := RX3) (T := TX3) (N := 2) (v := .ref (E.2.1 8)) S K h 2 rfl hinX3 rfl rfl 1 (by decide) hf_21 rfl rfl dX3_writeFile_80 ?_
  refine lv_bipush (v := 11) S.1 S.2.1 dX3_writeFile_83 (by decide) ?_
  refine lv_iload_n S.1 S.2.1 dX3_writeFile_85 rfl (lv_at hl 1 rfl) ?_
  refine lv_i2l (v := ((nI (co_sz O cnt)) : Int32).toInt64) S.1 S.2.1 dX3_writeFile_86 rfl ?_
  refine lv_iconst (v := 2) S.1 S.2.1 dX3_writeFile_87 (by decide) ?_
  refine cv_callv (ci := 0) (C := RX0) (T := TX0) (N := 1) S K h hl.1 rfl rfl rfl (c_setNumber l E σ7 11 2 (nI (co_sz O cnt)).toInt64 (by decide)) (cwV 3 S.2.2.2.2 gX3_writeFile_X0_setNumber rfl rfl rfl (by decide +kernel) ⟨Nat.le_of_ble_eq_true rfl, Nat.le_of_ble_eq_true rfl⟩) rfl rfl (Nat.le_of_ble_eq_true rfl) ⟨Nat.zero_le _, Nat.zero_le _⟩ dX3_writeFile_88 (fun σ8 H locs hq3 h => ?_)
  have f4 : cv_fr [4, 5, 6, 7, 9] σ σ8 ∧ rh (σ8.1 9) 0 ([86, 50] ++ byl sr.toInt64 4 ++ byl sa.toInt64 4 ++ byl (nI rd).toInt64 1 ++ byl (nI (co_sz O cnt)).toInt64 2) := by
    rw [hq3]
    exact ⟨f3.1.trans (cv_fr.up (by decide)), by rw [cv_I1, if_pos rfl]; exact rh_put f3.2 (by (try simp only [List.length_append, byl_len]); rfl) _ (by decide)⟩
  have f5 : rh (σ8.1 9) 0 (fl_h sa sr rd (co_sz O cnt)) := f4.2
  refine lv_aload_n S.1 S.2.1 dX3_writeFile_91 rfl (lv_at hl 2 rfl) ?_
  refine cv_gf (ci := 3) (C := RX3) (T := TX3) (N := 2) (v := .ref (E.2.1 3)) S K h 2 rfl hinX3 rfl rfl 0 (by decide) hf_14 rfl rfl dX3_writeFile_92 ?_
  refine lv_aload_n S.1 S.2.1 dX3_writeFile_95 rfl (lv_at hl 3 rfl) ?_
  refine cv_gfN (ci := 4) (C := RX4) (T := TX4) (N := 5) (v := .long (σ8.2.2.2 (v + 10) 1)) S K h (v + 10) (cv_kdV v hv).1 hinX4 (cv_fsV hv) rfl 1 (by decide) (cv_nest_18 K) rfl rfl dX3_writeFile_96 ?_
  refine cv_rel (show (σ8.2.2.2 (v + 10) 1) = pw from by rw [f4.1.2]; exact hpw) ?_
  refine lv_aload_n S.1 S.2.1 dX3_writeFile_99 rfl (lv_at hl 3 rfl) ?_
  refine cv_gfN (ci := 4) (C := RX4) (T := TX4) (N := 5) (v := .int (σ8.2.2.1 (v + 10) 2)) S K h (v + 10) (cv_kdV v hv).1 hinX4 (cv_fsV hv) rfl 2 (by decide) (cv_nest_16 K) rfl rfl dX3_writeFile_100 ?_
  refine cv_rei (show (σ8.2.2.1 (v + 10) 2) = sa from by rw [f4.1.2]; exact hsa) ?_
  refine lv_aload_n S.1 S.2.1 dX3_writeFile_103 rfl (lv_at hl 3 rfl) ?_
  refine cv_gfN (ci := 4) (C := RX4) (T := TX4) (N := 5) (v := .int (σ8.2.2.1 (v + 10) 3)) S K h (v + 10) (cv_kdV v hv).1 hinX4 (cv_fsV hv) rfl 3 (by decide) (cv_nest_17 K) rfl rfl dX3_writeFile_104 ?_
  refine cv_rei (show (σ8.2.2.1 (v + 10) 3) = nI rd from by rw [f4.1.2]; exact hrd) ?_
  refine cv_callv (ci := 1) (C := RX1) (T := TX1) (N := 4) S K h hl.1 rfl rfl rfl (c_setKey l E σ8 pw sa rd hrd40) (cwV 3 S.2.2.2.2 gX3_writeFile_X1_setKey rfl rfl rfl (by decide +kernel) ⟨Nat.le_of_ble_eq_true rfl, Nat.le_of_ble_eq_true rfl⟩) rfl rfl (Nat.le_of_ble_eq_true rfl) ⟨Nat.zero_le _, Nat.zero_le _⟩ dX3_writeFile_107 (fun σ9 H locs hk h => ?_)
  have f6 : cv_fr [4, 5, 6, 7, 9] σ σ9 ∧ rh (σ9.1 9) 0 (fl_h sa sr rd (co_sz O cnt)) := ⟨f4.1.trans (hk.1.mono (by decide)), by rw [hk.1.1 9 (by decide)]; exact f5⟩
  refine lv_aload_n S.1 S.2.1 dX3_writeFile_110 rfl (lv_at hl 2 rfl) ?_
  refine cv_gf (ci := 3) (C := RX3) (T := TX3) (N := 2) (v := .ref (E.2.1 8)) S K h 2 rfl hinX3 rfl rfl 1 (by decide) hf_21 rfl rfl dX3_writeFile_111 ?_
  refine lv_bipush (v := 13) S.1 S.2.1 dX3_writeFile_114 (by decide) ?_
  refine lv_aload_n S.1 S.2.1 dX3_writeFile_116 rfl (lv_at hl 2 rfl) ?_
  refine cv_gf (ci := 3) (C := RX3) (T := TX3) (N := 2) (v := .ref (E.2.1 3)) S K h 2 rfl hinX3 rfl rfl 0 (by decide) hf_14 rfl rfl dX3_writeFile_117 ?_
  refine lv_aload_n S.1 S.2.1 dX3_writeFile_120 rfl (lv_at hl 2 rfl) ?_
  refine cv_gf (ci := 3) (C := RX3) (T := TX3) (N := 2) (v := .ref (E.2.1 8)) S K h 2 rfl hinX3 rfl rfl 1 (by decide) hf_21 rfl rfl dX3_writeFile_121 ?_
  refine lv_bipush (v := 13) S.1 S.2.1 dX3_writeFile_124 (by decide) ?_
  refine lv_iconst (v := 3) S.1 S.2.1 dX3_writeFile_126 (by decide) ?_
  refine cv_calll (ci := 1) (C := RX1) (T := TX1) (N := 4) S K h hl.1 rfl rfl rfl (c_seal l E σ9 13 (by decide) 3) (cwV 3 S.2.2.2.2 gX3_writeFile_X1_seal rfl rfl rfl (by decide +kernel) ⟨Nat.le_of_ble_eq_true rfl, Nat.le_of_ble_eq_true rfl⟩) rfl rfl (Nat.le_of_ble_eq_true rfl) ⟨Nat.zero_le _, Nat.zero_le _⟩ dX3_writeFile_127 (fun v1 σ10 H locs hs h => ?_)
  have hv1 : v1 = pu_sl (pu_key pw sa rd) (lf (fl_h sa sr rd (co_sz O cnt))) 13 3 := by
    have g := rh_lf f6.2
    rw [fl_h_len] at g
    rw [hs.1]; exact pu_sl_eq hk.2 g 3
  refine lv_bipush (v := 8) S.1 S.2.1 dX3_writeFile_130 (by decide) ?_
  refine cv_callv (ci := 0) (C := RX0) (T := TX0) (N := 1) S K h hl.1 rfl rfl rfl (c_setNumber l E σ10 13 8 v1 (by decide)) (cwV 3 S.2.2.2.2 gX3_writeFile_X0_setNumber rfl rfl rfl (by decide +kernel) ⟨Nat.le_of_ble_eq_true rfl, Nat.le_of_ble_eq_true rfl⟩) rfl rfl (Nat.le_of_ble_eq_true rfl) ⟨Nat.zero_le _, Nat.zero_le _⟩ dX3_writeFile_132 (fun σ11 H locs hq5 h => ?_)
  have f7 : cv_fr [4, 5, 6, 7, 9] σ σ11 ∧ rh (σ11.1 9) 0 (fl_1 (pu_key pw sa rd) sa sr rd (co_l N O V cnt cnt).length) ∧ σ11.1 4 = σ9.1 4 := by
    rw [hCl, hq5]
    refine ⟨(f6.1.trans (hs.2.mono (by decide))).trans (cv_fr.up (by decide)), ?_, by rw [cv_I1, if_neg (by decide)]; exact hs.2.1 4 (by decide)⟩
    rw [cv_I1, if_pos rfl, hv1, hs.2.1 9 (by decide)]
    exact rh_put f6.2 (by rw [fl_h_len]) _ (by decide)
  refine lv_aload_n S.1 S.2.1 dX3_writeFile_135 rfl (lv_at hl 3 rfl) ?_
  refine cv_gfN (ci := 4) (C := RX4) (T := TX4) (N := 5) (v := .ref (E.2.1 (v + 13))) S K h (v + 10) (cv_kdV v hv).1 hinX4 (cv_fsV hv) rfl 0 (by decide) (cv_nest_13 K) rfl rfl dX3_writeFile_136 ?_
  refine lv_aload_n S.1 S.2.1 dX3_writeFile_139 rfl (lv_at hl 2 rfl) ?_
  refine cv_gf (ci := 3) (C := RX3) (T := TX3) (N := 2) (v := .ref (E.2.1 8)) S K h 2 rfl hinX3 rfl rfl 1 (by decide) hf_21 rfl rfl dX3_writeFile_140 ?_
  refine lv_bipush (v := 21) S.1 S.2.1 dX3_writeFile_143 (by decide) ?_
  refine cv_callv (ci := 2) (C := RX2) (T := TX2) (N := 4) S K h hl.1 (cv_kdV v hv).2.1 (cv_fsL hv) rfl (c_writeContent l E σ11 v hv cnt N O V (el_R_fr f7.1 (by simp) hR) 21 (by omega)) (cwV 2 S.2.2.2.2 gX3_writeFile_X2_writeContent rfl rfl rfl (by decide +kernel) ⟨Nat.le_of_ble_eq_true rfl, Nat.le_of_ble_eq_true rfl⟩) rfl rfl (Nat.le_of_ble_eq_true rfl) ⟨Nat.zero_le _, Nat.zero_le _⟩ dX3_writeFile_145 (fun σ12 H locs hw h => ?_)
  have f8 : cv_fr [4, 5, 6, 7, 9] σ σ12 ∧ rh (σ12.1 9) 0 (fl_1 (pu_key pw sa rd) sa sr rd (co_l N O V cnt cnt).length ++ (co_l N O V cnt cnt)) ∧ pu_eq 4 (σ12.1 4) (pu_key pw sa rd) := by
    refine ⟨f7.1.trans (hw.1.mono (by decide)), rh_cat (fl_1_len _ _ _ _ _).symm (rh_cong f7.2.1 (fun j hj => ?_)) hw.2.1, ?_⟩
    · rw [fl_1_len] at hj; rw [Nat.zero_add]; exact hw.2.2 j hj
    · rw [hw.1.1 4 (by decide), f7.2.2]; exact hk.2
  refine lv_aload_n S.1 S.2.1 dX3_writeFile_148 rfl (lv_at hl 2 rfl) ?_
  refine cv_gf (ci := 3) (C := RX3) (T := TX3) (N := 2) (v := .ref (E.2.1 3)) S K h 2 rfl hinX3 rfl rfl 0 (by decide) hf_14 rfl rfl dX3_writeFile_149 ?_
  refine lv_aload_n S.1 S.2.1 dX3_writeFile_152 rfl (lv_at hl 2 rfl) ?_
  refine cv_gf (ci := 3) (C := RX3) (T := TX3) (N := 2) (v := .ref (E.2.1 8)) S K h 2 rfl hinX3 rfl rfl 1 (by decide) hf_21 rfl rfl dX3_writeFile_153 ?_
  refine lv_bipush (v := 21) S.1 S.2.1 dX3_writeFile_156 (by decide) ?_
  refine lv_iload_n S.1 S.2.1 dX3_writeFile_158 rfl (lv_at hl 0 rfl) ?_
  refine lv_aload_n S.1 S.2.1 dX3_writeFile_159 rfl (lv_at hl 3 rfl) ?_
  refine cv_gfN (ci := 4) (C := RX4) (T := TX4) (N := 5) (v := .int (σ12.2.2.1 (v + 10) 4)) S K h (v + 10) (cv_kdV v hv).1 hinX4 (cv_fsV hv) rfl 4 (by decide) (cv_nest_15 K) rfl rfl dX3_writeFile_160 ?_
  refine cv_rei (show (σ12.2.2.1 (v + 10) 4) = sr from by rw [f8.1.2]; exact hsr) ?_
  refine cv_callv (ci := 1) (C := RX1) (T := TX1) (N := 4) S K h hl.1 rfl rfl rfl (c_applyStream l E σ12 21 (co_sz O cnt) (by omega) sr) (cwV 4 S.2.2.2.2 gX3_writeFile_X1_applyStream rfl rfl rfl (by decide +kernel) ⟨Nat.le_of_ble_eq_true rfl, Nat.le_of_ble_eq_true rfl⟩) rfl rfl (Nat.le_of_ble_eq_true rfl) ⟨Nat.zero_le _, Nat.zero_le _⟩ dX3_writeFile_163 (fun σ13 H locs hy h => ?_)
  have f9 : cv_fr [4, 5, 6, 7, 9] σ σ13 ∧ rh (σ13.1 9) 0 (fl_2 (pu_key pw sa rd) sa sr rd (co_l N O V cnt cnt)) ∧ pu_eq 4 (σ13.1 4) (pu_key pw sa rd) := by
    refine ⟨f8.1.trans (hy.1.mono (by decide)), ?_, by rw [hy.1.1 4 (by decide)]; exact f8.2.2⟩
    rw [hy.2, ← hCl]
    have g := rh_hide (k := σ12.1 4) (sr := sr) f8.2.1 (fl_1_len _ _ _ _ _).symm
    rw [fl_x_eq f8.2.2] at g
    exact g
  refine lv_aload_n S.1 S.2.1 dX3_writeFile_166 rfl (lv_at hl 2 rfl) ?_
  refine cv_gf (ci := 3) (C := RX3) (T := TX3) (N := 2) (v := .ref (E.2.1 8)) S K h 2 rfl hinX3 rfl rfl 1 (by decide) hf_21 rfl rfl dX3_writeFile_167 ?_
  refine lv_iload_n S.1 S.2.1 dX3_writeFile_170 rfl (lv_at hl 0 rfl) ?_
  refine lv_aload_n S.1 S.2.1 dX3_writeFile_171 rfl (lv_at hl 2 rfl) ?_
  refine cv_gf (ci := 3) (C := RX3) (T := TX3) (N := 2) (v := .ref (E.2.1 3)) S K h 2 rfl hinX3 rfl rfl 0 (by decide) hf_14 rfl rfl dX3_writeFile_172 ?_
  refine lv_aload_n S.1 S.2.1 dX3_writeFile_175 rfl (lv_at hl 2 rfl) ?_
  refine cv_gf (ci := 3) (C := RX3) (T := TX3) (N := 2) (v := .ref (E.2.1 8)) S K h 2 rfl hinX3 rfl rfl 1 (by decide) hf_21 rfl rfl dX3_writeFile_176 ?_
  refine lv_iload_n S.1 S.2.1 dX3_writeFile_179 rfl (lv_at hl 0 rfl) ?_
  refine lv_iconst (v := 4) S.1 S.2.1 dX3_writeFile_180 (by decide) ?_
  refine cv_calll (ci := 1) (C := RX1) (T := TX1) (N := 4) S K h hl.1 rfl rfl rfl (c_seal l E σ13 (21 + co_sz O cnt) (by omega) 4) (cwV 3 S.2.2.2.2 gX3_writeFile_X1_seal rfl rfl rfl (by decide +kernel) ⟨Nat.le_of_ble_eq_true rfl, Nat.le_of_ble_eq_true rfl⟩) rfl rfl (Nat.le_of_ble_eq_true rfl) ⟨Nat.zero_le _, Nat.zero_le _⟩ dX3_writeFile_181 (fun v2 σ14 H locs hs2 h => ?_)
  have hv2 : v2 = pu_sl (pu_key pw sa rd) (lf (fl_2 (pu_key pw sa rd) sa sr rd (co_l N O V cnt cnt))) (21 + (co_l N O V cnt cnt).length) 4 := by
    have g := rh_lf f9.2.1
    rw [fl_2_len, hCl] at g
    rw [hs2.1, hCl]; exact pu_sl_eq f9.2.2 g 4
  refine lv_bipush (v := 8) S.1 S.2.1 dX3_writeFile_184 (by decide) ?_
  refine cv_callv (ci := 0) (C := RX0) (T := TX0) (N := 1) S K h hl.1 rfl rfl rfl (c_setNumber l E σ14 (21 + co_sz O cnt) 8 v2 (by omega)) (cwV 3 S.2.2.2.2 gX3_writeFile_X0_setNumber rfl rfl rfl (by decide +kernel) ⟨Nat.le_of_ble_eq_true rfl, Nat.le_of_ble_eq_true rfl⟩) rfl rfl (Nat.le_of_ble_eq_true rfl) ⟨Nat.zero_le _, Nat.zero_le _⟩ dX3_writeFile_186 (fun σ15 H locs hq6 h => ?_)
  refine lv_iload_n S.1 S.2.1 dX3_writeFile_189 rfl (lv_at hl 0 rfl) ?_
  refine lv_bipush (v := 8) S.1 S.2.1 dX3_writeFile_190 (by decide) ?_
  refine lv_iadd S.1 S.2.1 dX3_writeFile_192 ?_
  refine cv_rei (show (((nI (21 + co_sz O cnt))) + 8) = nI (29 + co_sz O cnt) from by rw [show nI (21 + co_sz O cnt) + 8 = nI (21 + co_sz O cnt + 8) from nI_add _ 8]; congr 1; omega) ?_
  refine cv_iret S hr hlk hsz h ⟨rfl, ?_⟩ dX3_writeFile_193
  rw [hq6]
  refine ⟨(f9.1.trans (hs2.2.mono (by decide))).trans (cv_fr.up (by decide)), ?_⟩
  rw [cv_I1, if_pos rfl, hv2, hs2.2.1 9 (by decide)]
  exact rh_put f9.2.1 (by rw [fl_2_len, hCl, Nat.zero_add]) _ (by decide)
