/-! 22: EntryList: copyFrom, contentBytes, writeContent -/
set_option maxHeartbeats 4000000 in
set_option maxRecDepth 100000 in
/-- the list w is copied into the list v -/
theorem c_listCopy (l : Launch) (E : cv_E) (σ : cv_S) (v w : Nat) (hv : v < 3) (hw : w < 3) (hvw : v ≠ w) (cnt : Nat) (N : Nat → Int64) (O : Nat → Nat) (V : Nat → Nat → Int64) (hR : el_R σ w cnt N O V) : cv_Mv l E yX2_copyFrom wsX2_copyFrom (cv_R 2) [.ref (E.2.1 (v + 13)), .ref (E.2.1 (w + 13))] σ (fun τ => el_F v σ τ ∧ el_R τ v cnt N O V) := by
  intro sz
  refine cv_in (ws := wsX2_copyFrom) (cc := cX2_copyFrom) (maxL := 3) (ret := none) (own := RX2) rfl (by decide) rfl (Nat.le_of_ble_eq_true rfl) ?_
  intro p e s m below meth c S K hr hlk hsz h ls hl
  have hl : lv_has ls 3 [(0, .ref (E.2.1 (v + 13))), (1, .ref (E.2.1 (w + 13)))] := hl
  have hinX2 : ∀ w ∈ u_ws RX2 TX2 4, w ∈ wsX2_copyFrom := by decide +kernel
  have hf_24 := S.2.2.2.2 (.fieldLink RX2 24 "CrashVault$EntryList" "count" "I") (by decide +kernel)
  obtain ⟨q1, q2, q3⟩ := hR
  refine lv_aload_n S.1 S.2.1 dX2_copyFrom_0 rfl (lv_at hl 0 rfl) ?_
  refine lv_aload_n S.1 S.2.1 dX2_copyFrom_1 rfl (lv_at hl 1 rfl) ?_
  refine cv_gf (ci := 2) (C := RX2) (T := TX2) (N := 4) (v := .int (σ.2.2.1 (w + 13) 3)) S K h (w + 13) (cv_kdV w hw).2.1 hinX2 (cv_fsL hw) rfl 3 (by decide) hf_24 rfl rfl dX2_copyFrom_2 ?_
  refine cv_rei (show (σ.2.2.1 (w + 13) 3) = nI cnt from q1) ?_
  refine lv_topi (fun z1 ez1 => ?_)
  refine cv_pf (ci := 2) (C := RX2) (T := TX2) (N := 4) (x := z1) S K h (v + 13) (cv_kdV v hv).2.1 hinX2 (cv_fsL hv) rfl 3 cv_pok_X2_3 hf_24 rfl rfl rfl (Nat.le_of_ble_eq_true rfl) (cv_fsL hv) dX2_copyFrom_5 (fun σ2 H locs eσ2 h => ?_)
  refine lv_iconst (v := 0) S.1 S.2.1 dX2_copyFrom_8 (by decide) ?_
  refine lv_istore_n (lv' := [(2, .int 0), (0, .ref (E.2.1 (v + 13))), (1, .ref (E.2.1 (w + 13)))]) S.1 S.2.1 dX2_copyFrom_9 rfl hl (by decide) rfl (fun ls hl => ?_)
  have hst : el_F v σ σ2 ∧ σ2.2.2.1 (v + 13) 3 = nI cnt := by
    rw [eσ2]
    refine ⟨⟨fun _ _ => rfl, fun _ _ _ => rfl, fun k i hk => ?_, rfl⟩, ?_⟩
    · rw [cv_F3]
      by_cases h1 : k = v + 13
      · rw [if_pos h1, if_neg (by omega), h1]
      · rw [if_neg h1]
    · rw [cv_F3, if_pos rfl, if_pos rfl]; exact ez1
  refine cv_loop (α := Unit) (nL := 3) cnt (fun i a τ => el_F v σ τ ∧ τ.2.2.1 (v + 13) 3 = nI cnt ∧ ∀ j, j < i → el_E τ v j σ w j) (fun i a => [(2, .int (nI i)), (0, .ref (E.2.1 (v + 13))), (1, .ref (E.2.1 (w + 13)))]) ?_ ?_ 0 () σ2 _ _ _ (by omega) (⟨hst.1, hst.2, fun j hj => absurd hj (Nat.not_lt_zero j)⟩) h hl
  · intro i a τ H locs ls hi hI h hl ih
    have hl : lv_has ls 3 [(2, .int (nI i)), (0, .ref (E.2.1 (v + 13))), (1, .ref (E.2.1 (w + 13)))] := hl
    obtain ⟨g1, g2, g3⟩ := hI
    refine lv_iload_n S.1 S.2.1 dX2_copyFrom_10 rfl (lv_at hl 0 rfl) ?_
    refine lv_aload_n S.1 S.2.1 dX2_copyFrom_11 rfl (lv_at hl 1 rfl) ?_
    refine cv_gf (ci := 2) (C := RX2) (T := TX2) (N := 4) (v := .int (τ.2.2.1 (v + 13) 3)) S K h (v + 13) (cv_kdV v hv).2.1 hinX2 (cv_fsL hv) rfl 3 (by decide) hf_24 rfl rfl dX2_copyFrom_12 ?_
    refine lv_icmp_ge (tgt := 31) S.1 S.2.1 dX2_copyFrom_15 (by decide) (fun c1 => ?_) (fun c1 => ?_)
    · rw [g2] at c1
      exact absurd c1 (nI_ge hi (by omega))
    · refine lv_aload_n S.1 S.2.1 dX2_copyFrom_18 rfl (lv_at hl 1 rfl) ?_
      refine lv_aload_n S.1 S.2.1 dX2_copyFrom_19 rfl (lv_at hl 2 rfl) ?_
      refine lv_iload_n S.1 S.2.1 dX2_copyFrom_20 rfl (lv_at hl 0 rfl) ?_
      refine lv_iload_n S.1 S.2.1 dX2_copyFrom_21 rfl (lv_at hl 0 rfl) ?_
      refine cv_callv (ci := 2) (C := RX2) (T := TX2) (N := 4) S K h hl.1 (cv_kdV v hv).2.1 (cv_fsL hv) rfl (c_copyEntry l E τ v w hv hw i i (by omega) (by omega)) (cwV 3 S.2.2.2.2 gX2_copyFrom_X2_copyEntry rfl rfl rfl (by decide +kernel) ⟨Nat.le_of_ble_eq_true rfl, Nat.le_of_ble_eq_true rfl⟩) rfl rfl (Nat.le_of_ble_eq_true rfl) ⟨Nat.zero_le _, Nat.zero_le _⟩ dX2_copyFrom_22 (fun σ3 H locs hq h => ?_)
      obtain ⟨z5, ez5⟩ : ∃ y : Int32, y = ((nI i)) + 1 := ⟨_, rfl⟩
      refine lv_iinc (v := z5) (lv' := [(2, .int z5), (0, .ref (E.2.1 (v + 13))), (1, .ref (E.2.1 (w + 13)))]) S.1 S.2.1 dX2_copyFrom_25 hl (k := 0) rfl (by rw [ez5]; rfl) (by decide) rfl (fun ls hl => ?_)
      refine lv_goto (tgt := 10) S.1 S.2.1 dX2_copyFrom_28 (by decide) ?_
      rw [ez5, nI_1] at hl
      obtain ⟨u1, u2, u3, u4⟩ := hq
      refine ih () σ3 H locs ls ⟨g1.trans u3, by rw [u4]; exact g2, fun j hj => ?_⟩ h hl
      by_cases hji : j = i
      · subst hji; exact u1.trans (el_Fw g1 hv hw hvw (by omega))
      · exact (u2 j (by omega) hji).trans (g3 j (by omega))
  · intro a τ H locs ls hI h hl
    have hl : lv_has ls 3 [(2, .int (nI cnt)), (0, .ref (E.2.1 (v + 13))), (1, .ref (E.2.1 (w + 13)))] := hl
    obtain ⟨g1, g2, g3⟩ := hI
    refine lv_iload_n S.1 S.2.1 dX2_copyFrom_10 rfl (lv_at hl 0 rfl) ?_
    refine lv_aload_n S.1 S.2.1 dX2_copyFrom_11 rfl (lv_at hl 1 rfl) ?_
    refine cv_gf (ci := 2) (C := RX2) (T := TX2) (N := 4) (v := .int (τ.2.2.1 (v + 13) 3)) S K h (v + 13) (cv_kdV v hv).2.1 hinX2 (cv_fsL hv) rfl 3 (by decide) hf_24 rfl rfl dX2_copyFrom_12 ?_
    refine lv_icmp_ge (tgt := 31) S.1 S.2.1 dX2_copyFrom_15 (by decide) (fun c1 => ?_) (fun c1 => ?_)
    · exact cv_vret S hr hlk hsz h ⟨g1, g2, q2, fun i hi => (g3 i hi).R (q3 i hi)⟩ dX2_copyFrom_31
    · rw [g2] at c1
      exact absurd (Int32.le_refl _) c1

set_option maxHeartbeats 4000000 in
set_option maxRecDepth 100000 in
/-- how many bytes the content has -/
theorem c_contentBytes (l : Launch) (E : cv_E) (σ : cv_S) (v : Nat) (hv : v < 3) (cnt : Nat) (N : Nat → Int64) (O : Nat → Nat) (V : Nat → Nat → Int64) (hR : el_R σ v cnt N O V) : cv_Mi l E yX2_contentBytes wsX2_contentBytes (cv_R 1) [.ref (E.2.1 (v + 13))] σ (fun r τ => r = nI (co_sz O cnt) ∧ τ = σ) := by
  intro sz
  refine cv_in (ws := wsX2_contentBytes) (cc := cX2_contentBytes) (maxL := 3) (ret := (some .int)) (own := RX2) rfl (by decide) rfl (Nat.le_of_ble_eq_true rfl) ?_
  intro p e s m below meth c S K hr hlk hsz h ls hl
  have hl : lv_has ls 3 [(0, .ref (E.2.1 (v + 13)))] := hl
  have hinX2 : ∀ w ∈ u_ws RX2 TX2 4, w ∈ wsX2_contentBytes := by decide +kernel
  have hf_15 := S.2.2.2.2 (.fieldLink RX2 15 "CrashVault$EntryList" "olds" "[I") (by decide +kernel)
  have hf_24 := S.2.2.2.2 (.fieldLink RX2 24 "CrashVault$EntryList" "count" "I") (by decide +kernel)
  obtain ⟨q1, q2, q3⟩ := hR
  refine lv_iconst (v := 1) S.1 S.2.1 dX2_contentBytes_0 (by decide) ?_
  refine lv_istore_n (lv' := [(1, .int 1), (0, .ref (E.2.1 (v + 13)))]) S.1 S.2.1 dX2_contentBytes_1 rfl hl (by decide) rfl (fun ls hl => ?_)
  refine lv_iconst (v := 0) S.1 S.2.1 dX2_contentBytes_2 (by decide) ?_
  refine lv_istore_n (lv' := [(2, .int 0), (1, .int 1), (0, .ref (E.2.1 (v + 13)))]) S.1 S.2.1 dX2_contentBytes_3 rfl hl (by decide) rfl (fun ls hl => ?_)
  refine cv_loop (α := Unit) (nL := 3) cnt (fun i a τ => τ = σ) (fun i a => [(2, .int (nI i)), (1, .int (nI (co_sz O i))), (0, .ref (E.2.1 (v + 13)))]) ?_ ?_ 0 () σ _ _ _ (by omega) (rfl) h hl
  · intro i a τ H locs ls hi hI h hl ih
    have hl : lv_has ls 3 [(2, .int (nI i)), (1, .int (nI (co_sz O i))), (0, .ref (E.2.1 (v + 13)))] := hl
    rw [hI] at h
    refine lv_iload_n S.1 S.2.1 dX2_contentBytes_4 rfl (lv_at hl 0 rfl) ?_
    refine lv_aload_n S.1 S.2.1 dX2_contentBytes_5 rfl (lv_at hl 2 rfl) ?_
    refine cv_gf (ci := 2) (C := RX2) (T := TX2) (N := 4) (v := .int (σ.2.2.1 (v + 13) 3)) S K h (v + 13) (cv_kdV v hv).2.1 hinX2 (cv_fsL hv) rfl 3 (by decide) hf_24 rfl rfl dX2_contentBytes_6 ?_
    refine lv_icmp_ge (tgt := 33) S.1 S.2.1 dX2_contentBytes_9 (by decide) (fun c1 => ?_) (fun c1 => ?_)
    · rw [q1] at c1
      exact absurd c1 (nI_ge hi (by omega))
    · refine lv_iload_n S.1 S.2.1 dX2_contentBytes_12 rfl (lv_at hl 1 rfl) ?_
      refine lv_bipush (v := 17) S.1 S.2.1 dX2_contentBytes_13 (by decide) ?_
      refine lv_bipush (v := 8) S.1 S.2.1 dX2_contentBytes_15 (by decide) ?_
      refine lv_aload_n S.1 S.2.1 dX2_contentBytes_17 rfl (lv_at hl 2 rfl) ?_
      refine cv_gf (ci := 2) (C := RX2) (T := TX2) (N := 4) (v := .ref (E.2.1 (v + 19))) S K h (v + 13) (cv_kdV v hv).2.1 hinX2 (cv_fsL hv) rfl 1 (by decide) hf_15 rfl rfl dX2_contentBytes_18 ?_
      refine lv_iload_n S.1 S.2.1 dX2_contentBytes_21 rfl (lv_at hl 0 rfl) ?_
      refine cv_iald S K h (v + 19) (cv_kdV v hv).2.2.2.1 (cv_kdV v hv).2.2.2.2.2.2 i rfl (by omega) dX2_contentBytes_22 ?_
      refine lv_imul S.1 S.2.1 dX2_contentBytes_23 ?_
      refine lv_iadd S.1 S.2.1 dX2_contentBytes_24 ?_
      refine lv_iadd S.1 S.2.1 dX2_contentBytes_25 ?_
      refine cv_rei (show (((nI (co_sz O i))) + ((17 + ((8 * ((σ.1 (v + 19) i))))))) = nI (co_sz O (i + 1)) from by rw [(q3 i hi).2.1, show (8 : Int32) * nI (O i) = nI (8 * O i) from pk_mul 8 _, show (17 : Int32) + nI (8 * O i) = nI (17 + 8 * O i) from nI_add 17 _, nI_add]; rfl) ?_
      refine lv_istore_n (lv' := [(1, .int (nI (co_sz O (i + 1)))), (2, .int (nI i)), (0, .ref (E.2.1 (v + 13)))]) S.1 S.2.1 dX2_contentBytes_26 rfl hl (by decide) rfl (fun ls hl => ?_)
      obtain ⟨z5, ez5⟩ : ∃ y : Int32, y = ((nI i)) + 1 := ⟨_, rfl⟩
      refine lv_iinc (v := z5) (lv' := [(2, .int z5), (1, .int (nI (co_sz O (i + 1)))), (0, .ref (E.2.1 (v + 13)))]) S.1 S.2.1 dX2_contentBytes_27 hl (k := 1) rfl (by rw [ez5]; rfl) (by decide) rfl (fun ls hl => ?_)
      refine lv_goto (tgt := 4) S.1 S.2.1 dX2_contentBytes_30 (by decide) ?_
      rw [ez5, nI_1] at hl
      exact ih () σ H locs ls rfl h hl
  · intro a τ H locs ls hI h hl
    have hl : lv_has ls 3 [(2, .int (nI cnt)), (1, .int (nI (co_sz O cnt))), (0, .ref (E.2.1 (v + 13)))] := hl
    rw [hI] at h
    refine lv_iload_n S.1 S.2.1 dX2_contentBytes_4 rfl (lv_at hl 0 rfl) ?_
    refine lv_aload_n S.1 S.2.1 dX2_contentBytes_5 rfl (lv_at hl 2 rfl) ?_
    refine cv_gf (ci := 2) (C := RX2) (T := TX2) (N := 4) (v := .int (σ.2.2.1 (v + 13) 3)) S K h (v + 13) (cv_kdV v hv).2.1 hinX2 (cv_fsL hv) rfl 3 (by decide) hf_24 rfl rfl dX2_contentBytes_6 ?_
    refine lv_icmp_ge (tgt := 33) S.1 S.2.1 dX2_contentBytes_9 (by decide) (fun c1 => ?_) (fun c1 => ?_)
    · refine lv_iload_n S.1 S.2.1 dX2_contentBytes_33 rfl (lv_at hl 1 rfl) ?_
      exact cv_iret S hr hlk hsz h ⟨rfl, rfl⟩ dX2_contentBytes_34
    · rw [q1] at c1
      exact absurd (Int32.le_refl _) c1

set_option maxHeartbeats 4000000 in
set_option maxRecDepth 100000 in
/-- the content is written from byte b on -/
theorem c_writeContent (l : Launch) (E : cv_E) (σ : cv_S) (v : Nat) (hv : v < 3) (cnt : Nat) (N : Nat → Int64) (O : Nat → Nat) (V : Nat → Nat → Int64) (hR : el_R σ v cnt N O V) (b : Nat) (hb : b + co_sz O cnt ≤ 300) : cv_Mv l E yX2_writeContent wsX2_writeContent (cv_R 2) [.ref (E.2.1 (v + 13)), .ref (E.2.1 8), .int (nI b)] σ (fun τ => cv_fr [9] σ τ ∧ rh (τ.1 9) b (co_l N O V cnt cnt) ∧ ∀ k, k < b → τ.1 9 k = σ.1 9 k) := by
  intro sz
  refine cv_in (ws := wsX2_writeContent) (cc := cX2_writeContent) (maxL := 6) (ret := none) (own := RX2) rfl (by decide) rfl (Nat.le_of_ble_eq_true rfl) ?_
  intro p e s m below meth c S K hr hlk hsz h ls hl
  have hl : lv_has ls 6 [(0, .ref (E.2.1 (v + 13))), (1, .ref (E.2.1 8)), (2, .int (nI b))] := hl
  have hinX2 : ∀ w ∈ u_ws RX2 TX2 4, w ∈ wsX2_writeContent := by decide +kernel
  have hf_15 := S.2.2.2.2 (.fieldLink RX2 15 "CrashVault$EntryList" "olds" "[I") (by decide +kernel)
  have hf_21 := S.2.2.2.2 (.fieldLink RX2 21 "CrashVault$EntryList" "values" "[[J") (by decide +kernel)
  have hf_24 := S.2.2.2.2 (.fieldLink RX2 24 "CrashVault$EntryList" "count" "I") (by decide +kernel)
  have hf_9 := S.2.2.2.2 (.fieldLink RX2 9 "CrashVault$EntryList" "names" "[J") (by decide +kernel)
  obtain ⟨q1, q2, q3⟩ := hR
  have hmon : ∀ i, i ≤ cnt → co_sz O i + (if i < cnt then 17 + 8 * O i else 0) ≤ co_sz O cnt := by
    intro i hi
    have key : ∀ d i, i + d = cnt → co_sz O i + (if i < cnt then 17 + 8 * O i else 0) ≤ co_sz O cnt := by
      intro d
      induction d with
      | zero => intro i h1; rw [if_neg (by omega), show i = cnt by omega]; exact Nat.le_refl _
      | succ d ih =>
        intro i h1
        have h2 := ih (i + 1) (by omega)
        rw [if_pos (by omega)]
        have h3 : co_sz O (i + 1) = co_sz O i + (17 + 8 * O i) := rfl
        omega
    exact key (cnt - i) i (by omega)
  have hm0 := hmon 0 (Nat.zero_le _)
  have hc0 : co_sz O 0 = 1 := rfl
  refine lv_aload_n S.1 S.2.1 dX2_writeContent_0 rfl (lv_at hl 1 rfl) ?_
  refine lv_iload_n S.1 S.2.1 dX2_writeContent_1 rfl (lv_at hl 2 rfl) ?_
  refine lv_aload_n S.1 S.2.1 dX2_writeContent_2 rfl (lv_at hl 0 rfl) ?_
  refine cv_gf (ci := 2) (C := RX2) (T := TX2) (N := 4) (v := .int (σ.2.2.1 (v + 13) 3)) S K h (v + 13) (cv_kdV v hv).2.1 hinX2 (cv_fsL hv) rfl 3 (by decide) hf_24 rfl rfl dX2_writeContent_3 ?_
  refine cv_rei (show (σ.2.2.1 (v + 13) 3) = nI cnt from q1) ?_
  refine lv_i2l (v := ((nI cnt) : Int32).toInt64) S.1 S.2.1 dX2_writeContent_6 rfl ?_
  refine lv_iconst (v := 1) S.1 S.2.1 dX2_writeContent_7 (by decide) ?_
  refine cv_callv (ci := 0) (C := RX0) (T := TX0) (N := 1) S K h hl.1 rfl rfl rfl (c_setNumber l E σ b 1 (nI cnt).toInt64 (by omega)) (cwV 3 S.2.2.2.2 gX2_writeContent_X0_setNumber rfl rfl rfl (by decide +kernel) ⟨Nat.le_of_ble_eq_true rfl, Nat.le_of_ble_eq_true rfl⟩) rfl rfl (Nat.le_of_ble_eq_true rfl) ⟨Nat.zero_le _, Nat.zero_le _⟩ dX2_writeContent_8 (fun σ4 H locs hq h => ?_)
  refine lv_iload_n S.1 S.2.1 dX2_writeContent_11 rfl (lv_at hl 2 rfl) ?_
  refine lv_iconst (v := 1) S.1 S.2.1 dX2_writeContent_12 (by decide) ?_
  refine lv_iadd S.1 S.2.1 dX2_writeContent_13 ?_
  refine cv_rei (show (((nI b)) + 1) = nI (b + co_sz O 0) from nI_1 b) ?_
  refine lv_istore_n (lv' := [(3, .int (nI (b + co_sz O 0))), (0, .ref (E.2.1 (v + 13))), (1, .ref (E.2.1 8)), (2, .int (nI b))]) S.1 S.2.1 dX2_writeContent_14 rfl hl (by decide) rfl (fun ls hl => ?_)
  refine lv_iconst (v := 0) S.1 S.2.1 dX2_writeContent_15 (by decide) ?_
  refine lv_istore (lv' := [(4, .int 0), (3, .int (nI (b + co_sz O 0))), (0, .ref (E.2.1 (v + 13))), (1, .ref (E.2.1 8)), (2, .int (nI b))]) S.1 S.2.1 dX2_writeContent_16 hl (by decide) rfl (fun ls hl => ?_)
  have hst : cv_fr [9] σ σ4 ∧ rh (σ4.1 9) b (co_l N O V cnt 0) ∧ ∀ k, k < b → σ4.1 9 k = σ.1 9 k := by
    rw [hq]
    refine ⟨cv_fr.up (by decide), ?_, fun k hk => by rw [cv_I1, if_pos rfl, pu_put_out (Or.inl hk)]⟩
    rw [cv_I1, if_pos rfl]
    exact rh_put (rh_nil _ b) rfl _ (by decide)
  refine cv_loop (α := Unit) (nL := 6) cnt (fun i a τ => cv_fr [9] σ τ ∧ rh (τ.1 9) b (co_l N O V cnt i) ∧ ∀ k, k < b → τ.1 9 k = σ.1 9 k) (fun i a => [(4, .int (nI i)), (3, .int (nI (b + co_sz O i))), (0, .ref (E.2.1 (v + 13))), (1, .ref (E.2.1 8)), (2, .int (nI b))]) ?_ ?_ 0 () σ4 _ _ _ (by omega) (hst) h hl
  · intro i a τ H locs ls hi hI h hl ih
    have hl : lv_has ls 6 [(4, .int (nI i)), (3, .int (nI (b + co_sz O i))), (0, .ref (E.2.1 (v + 13))), (1, .ref (E.2.1 8)), (2, .int (nI b))] := hl
    obtain ⟨g1, g2, g3⟩ := hI
    have gO : τ.1 (v + 19) = σ.1 (v + 19) := g1.1 _ (by simp)
    have hmi := hmon i (Nat.le_of_lt hi)
    rw [if_pos hi] at hmi
    obtain ⟨n1, n2, n3, n4⟩ := q3 i hi
    refine lv_iload S.1 S.2.1 dX2_writeContent_18 (lv_at hl 0 rfl) ?_
    refine lv_aload_n S.1 S.2.1 dX2_writeContent_20 rfl (lv_at hl 2 rfl) ?_
    refine cv_gf (ci := 2) (C := RX2) (T := TX2) (N := 4) (v := .int (τ.2.2.1 (v + 13) 3)) S K h (v + 13) (cv_kdV v hv).2.1 hinX2 (cv_fsL hv) rfl 3 (by decide) hf_24 rfl rfl dX2_writeContent_21 ?_
    refine lv_icmp_ge (tgt := 108) S.1 S.2.1 dX2_writeContent_24 (by decide) (fun c1 => ?_) (fun c1 => ?_)
    · rw [g1.2, q1] at c1
      exact absurd c1 (nI_ge hi (by omega))
    · refine lv_aload_n S.1 S.2.1 dX2_writeContent_27 rfl (lv_at hl 3 rfl) ?_
      refine lv_iload_n S.1 S.2.1 dX2_writeContent_28 rfl (lv_at hl 1 rfl) ?_
      refine lv_aload_n S.1 S.2.1 dX2_writeContent_29 rfl (lv_at hl 2 rfl) ?_
      refine cv_gf (ci := 2) (C := RX2) (T := TX2) (N := 4) (v := .ref (E.2.1 (v + 16))) S K h (v + 13) (cv_kdV v hv).2.1 hinX2 (cv_fsL hv) rfl 0 (by decide) hf_9 rfl rfl dX2_writeContent_30 ?_
      refine lv_iload S.1 S.2.1 dX2_writeContent_33 (lv_at hl 0 rfl) ?_
      refine cv_lald S K h (v + 16) (cv_kdV v hv).2.2.1 (cv_kdV v hv).2.2.2.2.2.1 i rfl (by omega) dX2_writeContent_35 ?_
      refine cv_rel (show (τ.2.1 (v + 16) i) = N i from by rw [g1.2]; exact n1) ?_
      refine lv_bipush (v := 8) S.1 S.2.1 dX2_writeContent_36 (by decide) ?_
      refine cv_callv (ci := 0) (C := RX0) (T := TX0) (N := 1) S K h hl.1 rfl rfl rfl (c_setNumber l E τ (b + co_sz O i) 8 (N i) (by omega)) (cwV 3 S.2.2.2.2 gX2_writeContent_X0_setNumber rfl rfl rfl (by decide +kernel) ⟨Nat.le_of_ble_eq_true rfl, Nat.le_of_ble_eq_true rfl⟩) rfl rfl (Nat.le_of_ble_eq_true rfl) ⟨Nat.zero_le _, Nat.zero_le _⟩ dX2_writeContent_38 (fun σ5 H locs hq1 h => ?_)
      refine lv_aload_n S.1 S.2.1 dX2_writeContent_41 rfl (lv_at hl 3 rfl) ?_
      refine lv_iload_n S.1 S.2.1 dX2_writeContent_42 rfl (lv_at hl 1 rfl) ?_
      refine lv_bipush (v := 8) S.1 S.2.1 dX2_writeContent_43 (by decide) ?_
      refine lv_iadd S.1 S.2.1 dX2_writeContent_45 ?_
      refine cv_rei (show (((nI (b + co_sz O i))) + 8) = nI (b + co_sz O i + 8) from nI_add _ 8) ?_
      refine lv_aload_n S.1 S.2.1 dX2_writeContent_46 rfl (lv_at hl 2 rfl) ?_
      refine cv_gf (ci := 2) (C := RX2) (T := TX2) (N := 4) (v := .ref (E.2.1 (v + 19))) S K h (v + 13) (cv_kdV v hv).2.1 hinX2 (cv_fsL hv) rfl 1 (by decide) hf_15 rfl rfl dX2_writeContent_47 ?_
      refine lv_iload S.1 S.2.1 dX2_writeContent_50 (lv_at hl 0 rfl) ?_
      refine cv_iald S K h (v + 19) (cv_kdV v hv).2.2.2.1 (cv_kdV v hv).2.2.2.2.2.2 i rfl (by omega) dX2_writeContent_52 ?_
      refine cv_rei (show (σ5.1 (v + 19) i) = nI (O i) from by rw [hq1, cv_I1, if_neg (by omega), gO]; exact n2) ?_
      refine lv_i2l (v := ((nI (O i)) : Int32).toInt64) S.1 S.2.1 dX2_writeContent_53 rfl ?_
      refine lv_iconst (v := 1) S.1 S.2.1 dX2_writeContent_54 (by decide) ?_
      refine cv_callv (ci := 0) (C := RX0) (T := TX0) (N := 1) S K h hl.1 rfl rfl rfl (c_setNumber l E σ5 (b + co_sz O i + 8) 1 (nI (O i)).toInt64 (by omega)) (cwV 3 S.2.2.2.2 gX2_writeContent_X0_setNumber rfl rfl rfl (by decide +kernel) ⟨Nat.le_of_ble_eq_true rfl, Nat.le_of_ble_eq_true rfl⟩) rfl rfl (Nat.le_of_ble_eq_true rfl) ⟨Nat.zero_le _, Nat.zero_le _⟩ dX2_writeContent_55 (fun σ6 H locs hq2 h => ?_)
      obtain ⟨z3, ez3⟩ : ∃ y : Int32, y = ((nI (b + co_sz O i))) + 9 := ⟨_, rfl⟩
      refine lv_iinc (v := z3) (lv' := [(3, .int z3), (4, .int (nI i)), (0, .ref (E.2.1 (v + 13))), (1, .ref (E.2.1 8)), (2, .int (nI b))]) S.1 S.2.1 dX2_writeContent_58 hl (k := 1) rfl (by rw [ez3]; rfl) (by decide) rfl (fun ls hl => ?_)
      refine lv_iconst (v := 0) S.1 S.2.1 dX2_writeContent_61 (by decide) ?_
      refine lv_istore (lv' := [(5, .int 0), (3, .int z3), (4, .int (nI i)), (0, .ref (E.2.1 (v + 13))), (1, .ref (E.2.1 8)), (2, .int (nI b))]) S.1 S.2.1 dX2_writeContent_62 hl (by decide) rfl (fun ls hl => ?_)
      rw [ez3, show nI (b + co_sz O i) + 9 = nI (b + co_sz O i + 9 + 8 * 0) from nI_add _ 9] at hl
      have hst2 : cv_fr [9] σ σ6 ∧ rh (σ6.1 9) b (co_l N O V cnt i ++ (byl (N i) 8 ++ byl (nI (O i)).toInt64 1 ++ co_vals (V i) 0)) ∧ ∀ q, q < b → σ6.1 9 q = σ.1 9 q := by
        have r : σ6 = cv_uI τ 9 (pu_put (pu_put (τ.1 9) (pu_byt (N i)) (b + co_sz O i) 8) (pu_byt (nI (O i)).toInt64) (b + co_sz O i + 8) 1) := by rw [hq2, hq1, cv_uI_uI, cv_I1, if_pos rfl]
        rw [r]
        refine ⟨g1.trans (cv_fr.up (by decide)), ?_, fun q hq => by rw [cv_I1, if_pos rfl, pu_put_out (by omega), pu_put_out (by omega)]; exact g3 q hq⟩
        rw [cv_I1, if_pos rfl]
        have r1 := rh_put g2 (by rw [co_l_len]) (N i) (Nat.le_refl 8)
        have r2 := rh_put r1 (p := b + co_sz O i + 8) (by rw [List.length_append, co_l_len, byl_len]; omega) (nI (O i)).toInt64 (n := 1) (by decide)
        show rh _ b (_ ++ (_ ++ _ ++ []))
        rw [List.append_nil, ← List.append_assoc]
        exact r2
      refine cv_loop (α := Unit) (nL := 6) (O i + 1) (fun k a τ => cv_fr [9] σ τ ∧ rh (τ.1 9) b (co_l N O V cnt i ++ (byl (N i) 8 ++ byl (nI (O i)).toInt64 1 ++ co_vals (V i) k)) ∧ ∀ q, q < b → τ.1 9 q = σ.1 9 q) (fun k a => [(5, .int (nI k)), (3, .int (nI (b + co_sz O i + 9 + 8 * k))), (4, .int (nI i)), (0, .ref (E.2.1 (v + 13))), (1, .ref (E.2.1 8)), (2, .int (nI b))]) ?_ ?_ 0 () σ6 _ _ _ (by omega) hst2 h (lv_sub hl [0, 1, 2, 3, 4, 5] rfl)
      · intro k a ρ H locs ls hi hI h hl ih
        have hl : lv_has ls 6 [(5, .int (nI k)), (3, .int (nI (b + co_sz O i + 9 + 8 * k))), (4, .int (nI i)), (0, .ref (E.2.1 (v + 13))), (1, .ref (E.2.1 8)), (2, .int (nI b))] := hl
        obtain ⟨j1, j2, j3⟩ := hI
        have jO : ρ.1 (v + 19) = σ.1 (v + 19) := j1.1 _ (by simp)
        refine lv_iload S.1 S.2.1 dX2_writeContent_64 (lv_at hl 0 rfl) ?_
        refine lv_aload_n S.1 S.2.1 dX2_writeContent_66 rfl (lv_at hl 3 rfl) ?_
        refine cv_gf (ci := 2) (C := RX2) (T := TX2) (N := 4) (v := .ref (E.2.1 (v + 19))) S K h (v + 13) (cv_kdV v hv).2.1 hinX2 (cv_fsL hv) rfl 1 (by decide) hf_15 rfl rfl dX2_writeContent_67 ?_
        refine lv_iload S.1 S.2.1 dX2_writeContent_70 (lv_at hl 2 rfl) ?_
        refine cv_iald S K h (v + 19) (cv_kdV v hv).2.2.2.1 (cv_kdV v hv).2.2.2.2.2.2 i rfl (by omega) dX2_writeContent_72 ?_
        refine cv_rei (show (ρ.1 (v + 19) i) = nI (O i) from by rw [jO]; exact n2) ?_
        refine lv_icmp_gt (tgt := 102) S.1 S.2.1 dX2_writeContent_73 (by decide) (fun c2 => ?_) (fun c2 => ?_)
        · exact absurd c2 (nI_nlt (by omega) (by omega))
        · refine lv_aload_n S.1 S.2.1 dX2_writeContent_76 rfl (lv_at hl 4 rfl) ?_
          refine lv_iload_n S.1 S.2.1 dX2_writeContent_77 rfl (lv_at hl 1 rfl) ?_
          refine lv_aload_n S.1 S.2.1 dX2_writeContent_78 rfl (lv_at hl 3 rfl) ?_
          refine cv_gf (ci := 2) (C := RX2) (T := TX2) (N := 4) (v := .ref (E.2.1 (v + 22))) S K h (v + 13) (cv_kdV v hv).2.1 hinX2 (cv_fsL hv) rfl 2 (by decide) hf_21 rfl rfl dX2_writeContent_79 ?_
          refine lv_iload S.1 S.2.1 dX2_writeContent_82 (lv_at hl 2 rfl) ?_
          refine cv_aald S K h v hv i rfl (by omega) dX2_writeContent_84 ?_
          refine lv_iload S.1 S.2.1 dX2_writeContent_85 (lv_at hl 0 rfl) ?_
          refine cv_lald S K h (8 * v + i + 25) (cv_kdR v hv i (by omega)).1 (cv_kdR v hv i (by omega)).2 k rfl (by omega) dX2_writeContent_87 ?_
          refine cv_rel (show (ρ.2.1 (8 * v + i + 25) k) = V i k from by rw [j1.2]; exact n4 k (by omega)) ?_
          refine lv_bipush (v := 8) S.1 S.2.1 dX2_writeContent_88 (by decide) ?_
          refine cv_callv (ci := 0) (C := RX0) (T := TX0) (N := 1) S K h hl.1 rfl rfl rfl (c_setNumber l E ρ (b + co_sz O i + 9 + 8 * k) 8 (V i k) (by omega)) (cwV 3 S.2.2.2.2 gX2_writeContent_X0_setNumber rfl rfl rfl (by decide +kernel) ⟨Nat.le_of_ble_eq_true rfl, Nat.le_of_ble_eq_true rfl⟩) rfl rfl (Nat.le_of_ble_eq_true rfl) ⟨Nat.zero_le _, Nat.zero_le _⟩ dX2_writeContent_90 (fun σ7 H locs hq3 h => ?_)
          obtain ⟨z3, ez3⟩ : ∃ y : Int32, y = ((nI (b + co_sz O i + 9 + 8 * k))) + 8 := ⟨_, rfl⟩
          refine lv_iinc (v := z3) (lv' := [(3, .int z3), (5, .int (nI k)), (4, .int (nI i)), (0, .ref (E.2.1 (v + 13))), (1, .ref (E.2.1 8)), (2, .int (nI b))]) S.1 S.2.1 dX2_writeContent_93 hl (k := 1) rfl (by rw [ez3]; rfl) (by decide) rfl (fun ls hl => ?_)
          obtain ⟨z5, ez5⟩ : ∃ y : Int32, y = ((nI k)) + 1 := ⟨_, rfl⟩
          refine lv_iinc (v := z5) (lv' := [(5, .int z5), (3, .int z3), (4, .int (nI i)), (0, .ref (E.2.1 (v + 13))), (1, .ref (E.2.1 8)), (2, .int (nI b))]) S.1 S.2.1 dX2_writeContent_96 hl (k := 1) rfl (by rw [ez5]; rfl) (by decide) rfl (fun ls hl => ?_)
          refine lv_goto (tgt := 64) S.1 S.2.1 dX2_writeContent_99 (by decide) ?_
          rw [ez5, nI_1, ez3, show nI (b + co_sz O i + 9 + 8 * k) + 8 = nI (b + co_sz O i + 9 + 8 * (k + 1)) from nI_add _ 8] at hl
          refine ih () σ7 H locs ls ?_ h hl
          rw [hq3]
          refine ⟨j1.trans (cv_fr.up (by decide)), ?_, fun q hq => by rw [cv_I1, if_pos rfl, pu_put_out (by omega)]; exact j3 q hq⟩
          rw [cv_I1, if_pos rfl]
          show rh _ b (_ ++ (_ ++ (co_vals (V i) k ++ byl (V i k) 8)))
          rw [← List.append_assoc, ← List.append_assoc] at j2
          rw [← List.append_assoc, ← List.append_assoc, ← List.append_assoc]
          refine rh_put ?_ ?_ _ (Nat.le_refl 8)
          · rw [List.append_assoc (co_l N O V cnt i)] at j2 ⊢; first | exact j2 | (simpa [List.append_assoc] using j2)
          · simp only [List.length_append, co_l_len, byl_len, co_vals_len]; omega
      · intro a ρ H locs ls hI h hl
        have hl : lv_has ls 6 [(5, .int (nI (O i + 1))), (3, .int (nI (b + co_sz O i + 9 + 8 * (O i + 1)))), (4, .int (nI i)), (0, .ref (E.2.1 (v + 13))), (1, .ref (E.2.1 8)), (2, .int (nI b))] := hl
        obtain ⟨j1, j2, j3⟩ := hI
        have jO : ρ.1 (v + 19) = σ.1 (v + 19) := j1.1 _ (by simp)
        refine lv_iload S.1 S.2.1 dX2_writeContent_64 (lv_at hl 0 rfl) ?_
        refine lv_aload_n S.1 S.2.1 dX2_writeContent_66 rfl (lv_at hl 3 rfl) ?_
        refine cv_gf (ci := 2) (C := RX2) (T := TX2) (N := 4) (v := .ref (E.2.1 (v + 19))) S K h (v + 13) (cv_kdV v hv).2.1 hinX2 (cv_fsL hv) rfl 1 (by decide) hf_15 rfl rfl dX2_writeContent_67 ?_
        refine lv_iload S.1 S.2.1 dX2_writeContent_70 (lv_at hl 2 rfl) ?_
        refine cv_iald S K h (v + 19) (cv_kdV v hv).2.2.2.1 (cv_kdV v hv).2.2.2.2.2.2 i rfl (by omega) dX2_writeContent_72 ?_
        refine cv_rei (show (ρ.1 (v + 19) i) = nI (O i) from by rw [jO]; exact n2) ?_
        refine lv_icmp_gt (tgt := 102) S.1 S.2.1 dX2_writeContent_73 (by decide) (fun c2 => ?_) (fun c2 => ?_)
        · obtain ⟨z4, ez4⟩ : ∃ y : Int32, y = ((nI i)) + 1 := ⟨_, rfl⟩
          refine lv_iinc (v := z4) (lv' := [(4, .int z4), (5, .int (nI (O i + 1))), (3, .int (nI (b + co_sz O i + 9 + 8 * (O i + 1)))), (0, .ref (E.2.1 (v + 13))), (1, .ref (E.2.1 8)), (2, .int (nI b))]) S.1 S.2.1 dX2_writeContent_102 hl (k := 2) rfl (by rw [ez4]; rfl) (by decide) rfl (fun ls hl => ?_)
          refine lv_goto (tgt := 18) S.1 S.2.1 dX2_writeContent_105 (by decide) ?_
          rw [ez4, nI_1, show b + co_sz O i + 9 + 8 * (O i + 1) = b + co_sz O (i + 1) from by show _ = b + (co_sz O i + (17 + 8 * O i)); omega] at hl
          exact ih () ρ H locs ls ⟨j1, j2, j3⟩ h (lv_sub hl [0, 2, 3, 4, 5] rfl)
        · exact absurd (nI_lt (Nat.lt_succ_self _) (by omega)) c2
  · intro a τ H locs ls hI h hl
    have hl : lv_has ls 6 [(4, .int (nI cnt)), (3, .int (nI (b + co_sz O cnt))), (0, .ref (E.2.1 (v + 13))), (1, .ref (E.2.1 8)), (2, .int (nI b))] := hl
    obtain ⟨g1, g2, g3⟩ := hI
    refine lv_iload S.1 S.2.1 dX2_writeContent_18 (lv_at hl 0 rfl) ?_
    refine lv_aload_n S.1 S.2.1 dX2_writeContent_20 rfl (lv_at hl 2 rfl) ?_
    refine cv_gf (ci := 2) (C := RX2) (T := TX2) (N := 4) (v := .int (τ.2.2.1 (v + 13) 3)) S K h (v + 13) (cv_kdV v hv).2.1 hinX2 (cv_fsL hv) rfl 3 (by decide) hf_24 rfl rfl dX2_writeContent_21 ?_
    refine lv_icmp_ge (tgt := 108) S.1 S.2.1 dX2_writeContent_24 (by decide) (fun c1 => ?_) (fun c1 => ?_)
    · exact cv_vret S hr hlk hsz h ⟨g1, g2, g3⟩ dX2_writeContent_108
    · rw [g1.2, q1] at c1
      exact absurd (Int32.le_refl _) c1
