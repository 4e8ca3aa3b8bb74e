/-! 19: EntryList: change, insert, drop -/
def ch_O (O : Nat → Nat) (a : Nat) : Nat → Nat := va_up O a (min (O a + 1) 2)
def ch_V (V : Nat → Nat → Int64) (a : Nat) (x : Int64) : Nat → Nat → Int64 := va_up V a (fun k => if k = 0 then x else V a (k - 1))
/-- bytes of a content of i entries -/
def co_sz (O : Nat → Nat) : Nat → Nat
  | 0 => 1
  | i + 1 => co_sz O i + (17 + 8 * O i)
theorem co_sz_le {O : Nat → Nat} {n : Nat} (h : ∀ i, i < n → O i ≤ 2) : co_sz O n ≤ 1 + 33 * n := by
  induction n with
  | zero => exact Nat.le_refl 1
  | succ n ih =>
    have := ih (fun i hi => h i (by omega))
    have := h n (by omega)
    show co_sz O n + (17 + 8 * O n) ≤ _
    omega
theorem cv_min2 {o : Nat} (h : o ≤ 2) : (if (2 : Int32) < nI o + 1 then 2 else nI o + 1) = nI (min (o + 1) 2) := by
  rcases (show o = 0 ∨ o = 1 ∨ o = 2 by omega) with rfl | rfl | rfl <;> rfl

set_option maxHeartbeats 4000000 in
set_option maxRecDepth 100000 in
/-- the value of the entry at_ is xv then -/
theorem c_change (l : Launch) (E : cv_E) (σ : cv_S) (v : Nat) (hv : v < 3) (cnt : Nat) (N : Nat → Int64) (O : Nat → Nat) (V : Nat → Nat → Int64) (hR : el_R σ v cnt N O V) (at_ : Nat) (ha : at_ < cnt) (xv : Int64) : cv_Mv l E yX2_change wsX2_change (cv_R 2) [.ref (E.2.1 (v + 13)), .int (nI at_), .long xv] σ (fun τ => el_F v σ τ ∧ ((V at_ 0 = xv ∧ τ = σ) ∨ (V at_ 0 ≠ xv ∧ el_R τ v cnt N (ch_O O at_) (ch_V V at_ xv)))) := by
  intro sz
  refine cv_in (ws := wsX2_change) (cc := cX2_change) (maxL := 5) (ret := none) (own := RX2) rfl (by decide) rfl (Nat.le_of_ble_eq_true rfl) ?_
  intro p e s m below meth c S K hr hlk hsz h ls hl
  have hl : lv_has ls 5 [(0, .ref (E.2.1 (v + 13))), (1, .int (nI at_)), (2, .long xv)] := hl
  have hinX2 : ∀ w ∈ u_ws RX2 TX2 4, w ∈ wsX2_change := by decide +kernel
  have hf_15 := S.2.2.2.2 (.fieldLink RX2 15 "CrashVault$EntryList" "olds" "[I") (by decide +kernel)
  have hf_21 := S.2.2.2.2 (.fieldLink RX2 21 "CrashVault$EntryList" "values" "[[J") (by decide +kernel)
  obtain ⟨q1, q2, q3⟩ := hR
  obtain ⟨n1, n2, n3, n4⟩ := q3 at_ ha
  refine lv_aload_n S.1 S.2.1 dX2_change_0 rfl (lv_at hl 0 rfl) ?_
  refine cv_gf (ci := 2) (C := RX2) (T := TX2) (N := 4) (v := .ref (E.2.1 (v + 22))) S K h (v + 13) (cv_kdV v hv).2.1 hinX2 (cv_fsL hv) rfl 2 (by decide) hf_21 rfl rfl dX2_change_1 ?_
  refine lv_iload_n S.1 S.2.1 dX2_change_4 rfl (lv_at hl 1 rfl) ?_
  refine cv_aald S K h v hv at_ rfl (by omega) dX2_change_5 ?_
  refine lv_astore (lv' := [(4, .ref (E.2.1 (8 * v + at_ + 25))), (0, .ref (E.2.1 (v + 13))), (1, .int (nI at_)), (2, .long xv)]) S.1 S.2.1 dX2_change_6 hl (by decide) rfl (fun ls hl => ?_)
  refine lv_aload S.1 S.2.1 dX2_change_8 (lv_at hl 0 rfl) ?_
  refine lv_iconst (v := 0) S.1 S.2.1 dX2_change_10 (by decide) ?_
  refine cv_lald S K h (8 * v + at_ + 25) (cv_kdR v hv at_ (by omega)).1 (cv_kdR v hv at_ (by omega)).2 0 rfl (by decide) dX2_change_11 ?_
  refine lv_lload_n S.1 S.2.1 dX2_change_12 rfl (lv_at hl 3 rfl) ?_
  refine W.lcmp S.1 S.2.1 dX2_change_13 ?_
  refine lv_if_ne (tgt := 18) S.1 S.2.1 dX2_change_14 (by decide) (fun c1 => ?_) (fun c1 => ?_)
  · have hne : V at_ 0 ≠ xv := fun q => c1 (lg_eq0.mpr ((n4 0 (Nat.zero_le _)).trans q))
    refine lv_aload S.1 S.2.1 dX2_change_18 (lv_at hl 0 rfl) ?_
    refine lv_iconst (v := 2) S.1 S.2.1 dX2_change_20 (by decide) ?_
    refine lv_aload S.1 S.2.1 dX2_change_21 (lv_at hl 0 rfl) ?_
    refine lv_iconst (v := 1) S.1 S.2.1 dX2_change_23 (by decide) ?_
    refine cv_lald S K h (8 * v + at_ + 25) (cv_kdR v hv at_ (by omega)).1 (cv_kdR v hv at_ (by omega)).2 1 rfl (by decide) dX2_change_24 ?_
    refine lv_topl (fun y1 ey1 => ?_)
    refine cv_last (x := y1) S K h (8 * v + at_ + 25) (cv_kdR v hv at_ (by omega)).1 (cv_kdR v hv at_ (by omega)).2 2 rfl (by decide) dX2_change_25 (fun σ1 H locs eσ1 h => ?_)
    refine lv_aload S.1 S.2.1 dX2_change_26 (lv_at hl 0 rfl) ?_
    refine lv_iconst (v := 1) S.1 S.2.1 dX2_change_28 (by decide) ?_
    refine lv_aload S.1 S.2.1 dX2_change_29 (lv_at hl 0 rfl) ?_
    refine lv_iconst (v := 0) S.1 S.2.1 dX2_change_31 (by decide) ?_
    refine cv_lald S K h (8 * v + at_ + 25) (cv_kdR v hv at_ (by omega)).1 (cv_kdR v hv at_ (by omega)).2 0 rfl (by decide) dX2_change_32 ?_
    refine lv_topl (fun y2 ey2 => ?_)
    refine cv_last (x := y2) S K h (8 * v + at_ + 25) (cv_kdR v hv at_ (by omega)).1 (cv_kdR v hv at_ (by omega)).2 1 rfl (by decide) dX2_change_33 (fun σ2 H locs eσ2 h => ?_)
    refine lv_aload S.1 S.2.1 dX2_change_34 (lv_at hl 0 rfl) ?_
    refine lv_iconst (v := 0) S.1 S.2.1 dX2_change_36 (by decide) ?_
    refine lv_lload_n S.1 S.2.1 dX2_change_37 rfl (lv_at hl 3 rfl) ?_
    refine cv_last (x := xv) S K h (8 * v + at_ + 25) (cv_kdR v hv at_ (by omega)).1 (cv_kdR v hv at_ (by omega)).2 0 rfl (by decide) dX2_change_38 (fun σ3 H locs eσ3 h => ?_)
    refine lv_aload_n S.1 S.2.1 dX2_change_39 rfl (lv_at hl 1 rfl) ?_
    refine cv_gf (ci := 2) (C := RX2) (T := TX2) (N := 4) (v := .ref (E.2.1 (v + 19))) S K h (v + 13) (cv_kdV v hv).2.1 hinX2 (cv_fsL hv) rfl 1 (by decide) hf_15 rfl rfl dX2_change_40 ?_
    refine lv_iload_n S.1 S.2.1 dX2_change_43 rfl (lv_at hl 2 rfl) ?_
    refine lv_aload_n S.1 S.2.1 dX2_change_44 rfl (lv_at hl 1 rfl) ?_
    refine cv_gf (ci := 2) (C := RX2) (T := TX2) (N := 4) (v := .ref (E.2.1 (v + 19))) S K h (v + 13) (cv_kdV v hv).2.1 hinX2 (cv_fsL hv) rfl 1 (by decide) hf_15 rfl rfl dX2_change_45 ?_
    refine lv_iload_n S.1 S.2.1 dX2_change_48 rfl (lv_at hl 2 rfl) ?_
    refine cv_iald S K h (v + 19) (cv_kdV v hv).2.2.2.1 (cv_kdV v hv).2.2.2.2.2.2 at_ rfl (by omega) dX2_change_49 ?_
    refine lv_iconst (v := 1) S.1 S.2.1 dX2_change_50 (by decide) ?_
    refine lv_iadd S.1 S.2.1 dX2_change_51 ?_
    refine lv_iconst (v := 2) S.1 S.2.1 dX2_change_52 (by decide) ?_
    refine va_mmin S.1 S.2.1 (S.2.2.1.trans hl.1.symm) S.2.2.2.1 (S.2.2.2.2 (.methodLink RX2 28 Lib.Math.min.name) (by decide +kernel)) (S.2.2.2.2 (.static Lib.Math.min.name) (by decide +kernel)) (S.2.2.2.2 (.initialized "java/lang/Math") (by decide +kernel)) (S.2.2.2.2 (.code Lib.Math.min.name Lib.Math.min.code 2 (some .int)) (by decide +kernel)) (Nat.le_of_ble_eq_true rfl) (Nat.le_of_ble_eq_true rfl) (Nat.zero_le _) (Nat.zero_le _) dX2_change_53 ?_
    refine lv_topi (fun y4 ey4 => ?_)
    refine cv_iast (x := y4) S K h (v + 19) (cv_kdV v hv).2.2.2.1 (cv_kdV v hv).2.2.2.2.2.2 at_ rfl (by omega) dX2_change_56 (fun σ4 H locs eσ4 h => ?_)
    refine cv_vret S hr hlk hsz h ?_ dX2_change_57
    have r3 : ∀ q, σ4.2.1 q = if q = (8 * v + at_ + 25) then vp_updL (vp_updL (vp_updL (σ.2.1 (8 * v + at_ + 25)) 2 y1) 1 y2) 0 xv else σ.2.1 q := by
      intro q
      rw [eσ4, cv_I2, eσ3, eσ2, eσ1]
      by_cases hq : q = (8 * v + at_ + 25) <;> simp [cv_J2, hq]
    have hy2 : y2 = V at_ 0 := by rw [ey2, eσ1, cv_J2, if_pos rfl, pk_uLn (by decide)]; exact n4 0 (Nat.zero_le _)
    have r1 : ∀ q, σ4.1 q = if q = v + 19 then upd (σ.1 (v + 19)) at_ y4 else σ.1 q := by
      intro q
      rw [eσ4, eσ3, eσ2, eσ1]
      rfl
    have r2 : σ4.2.2 = σ.2.2 := by rw [eσ4, eσ3, eσ2, eσ1]; rfl
    have hy4 : y4 = nI (min (O at_ + 1) 2) := by
      rw [ey4, eσ3, eσ2, eσ1]
      show (if (2 : Int32) < σ.1 (v + 19) at_ + 1 then 2 else σ.1 (v + 19) at_ + 1) = _
      rw [n2]; exact cv_min2 n3
    refine ⟨⟨fun k hk => by rw [r1, if_neg hk], fun k h1 h2 => by rw [r3, if_neg (h2 at_ (by omega))], fun k i _ => by rw [r2], by rw [r2]⟩, Or.inr ⟨hne, by rw [r2]; exact q1, q2, fun i hi => ?_⟩⟩
    obtain ⟨m1, m2, m3, m4⟩ := q3 i hi
    by_cases hia : i = at_
    · subst hia
      refine ⟨by rw [r3, if_neg (by omega)]; exact m1, by rw [r1, if_pos rfl, pk_us, hy4]; simp [ch_O, va_up], by simp [ch_O, va_up]; omega, fun k hk => ?_⟩
      simp only [ch_O, va_up, if_true] at hk
      rw [r3, if_pos rfl]
      rcases (show k = 0 ∨ k = 1 ∨ k = 2 by omega) with rfl | rfl | rfl
      · simp [ch_V, va_up, vp_updL]
      · simp [ch_V, va_up, vp_updL, hy2]
      · simp only [ch_V, va_up, vp_updL]; simp [ey1]; exact m4 1 (by omega)
    · refine ⟨by rw [r3, if_neg (by omega)]; exact m1, by rw [r1, if_pos rfl, pk_un hia, m2]; simp [ch_O, va_up, hia], by simp [ch_O, va_up, hia]; exact m3, fun k hk => ?_⟩
      simp only [ch_O, va_up, if_neg hia] at hk
      rw [r3, if_neg (by omega), m4 k hk]
      simp [ch_V, va_up, hia]
  · exact cv_vret S hr hlk hsz h ⟨el_F.rf, Or.inl ⟨(n4 0 (Nat.zero_le _)).symm.trans (lg_eq0.mp c1), rfl⟩⟩ dX2_change_17

set_option maxHeartbeats 4000000 in
set_option maxRecDepth 100000 in
/-- a new entry, in its place -/
theorem c_insert (l : Launch) (E : cv_E) (σ : cv_S) (v : Nat) (hv : v < 3) (cnt : Nat) (N : Nat → Int64) (O : Nat → Nat) (V : Nat → Nat → Int64) (hR : el_R σ v cnt N O V) (hc7 : cnt ≤ 7) (nm xv : Int64) : cv_Mv l E yX2_insert wsX2_insert (cv_R 2) [.ref (E.2.1 (v + 13)), .long nm, .long xv] σ (fun τ => el_F v σ τ ∧ ∃ a, a ≤ cnt ∧ (∀ j, a ≤ j → j < cnt → nm < N j) ∧ (a = 0 ∨ ¬ nm < N (a - 1)) ∧ el_R τ v (cnt + 1) (li_ins N a nm) (li_ins O a 0) (li_ins V a (fun _ => xv))) := by
  intro sz
  refine cv_in (ws := wsX2_insert) (cc := cX2_insert) (maxL := 6) (ret := none) (own := RX2) rfl (by decide) rfl (Nat.le_of_ble_eq_true rfl) ?_
  intro p e s m below meth c S K hr hlk hsz h ls hl
  have hl : lv_has ls 6 [(0, .ref (E.2.1 (v + 13))), (1, .long nm), (3, .long xv)] := hl
  have hinX2 : ∀ w ∈ u_ws RX2 TX2 4, w ∈ wsX2_insert := by decide +kernel
  have hf_15 := S.2.2.2.2 (.fieldLink RX2 15 "CrashVault$EntryList" "olds" "[I") (by decide +kernel)
  have hf_21 := S.2.2.2.2 (.fieldLink RX2 21 "CrashVault$EntryList" "values" "[[J") (by decide +kernel)
  have hf_24 := S.2.2.2.2 (.fieldLink RX2 24 "CrashVault$EntryList" "count" "I") (by decide +kernel)
  have hf_9 := S.2.2.2.2 (.fieldLink RX2 9 "CrashVault$EntryList" "names" "[J") (by decide +kernel)
  obtain ⟨q1, q2, q3⟩ := hR
  refine lv_aload_n S.1 S.2.1 dX2_insert_0 rfl (lv_at hl 0 rfl) ?_
  refine cv_gf (ci := 2) (C := RX2) (T := TX2) (N := 4) (v := .int (σ.2.2.1 (v + 13) 3)) S K h (v + 13) (cv_kdV v hv).2.1 hinX2 (cv_fsL hv) rfl 3 (by decide) hf_24 rfl rfl dX2_insert_1 ?_
  refine cv_rei (show (σ.2.2.1 (v + 13) 3) = nI cnt from q1) ?_
  refine lv_istore (lv' := [(5, .int (nI cnt)), (0, .ref (E.2.1 (v + 13))), (1, .long nm), (3, .long xv)]) S.1 S.2.1 dX2_insert_4 hl (by decide) rfl (fun ls hl => ?_)
  have key : ∀ (a : Nat) (τ' : cv_S) (H : Heap) (locs : List Loc) (ls : Array Slot), a ≤ cnt → el_F v σ τ' → τ'.2.2 = σ.2.2 → (∀ j, j < a → el_E τ' v j σ v j) → (∀ j, a < j → j ≤ cnt → el_E τ' v j σ v (j - 1)) → (∀ j, a ≤ j → j < cnt → nm < N j) → (a = 0 ∨ ¬ nm < N (a - 1)) → cv_H E τ' s H locs → lv_has ls 6 [(5, .int (nI a)), (0, .ref (E.2.1 (v + 13))), (1, .long nm), (3, .long xv)] → W p l e (cv_R 2) s m ([.ref (E.2.1 (v + 13)), .long nm, .long xv] : List Value).toArray below meth c H locs 0 0 (MQ below (va_Qv (fun τ => el_F v σ τ ∧ ∃ a, a ≤ cnt ∧ (∀ j, a ≤ j → j < cnt → nm < N j) ∧ (a = 0 ∨ ¬ nm < N (a - 1)) ∧ el_R τ v (cnt + 1) (li_ins N a nm) (li_ins O a 0) (li_ins V a (fun _ => xv))) (cv_B E) (cv_A E sz)) ([.ref (E.2.1 (v + 13)), .long nm, .long xv] : List Value).toArray s 0 0 (cv_A E sz)) (F0 m 42 ls []) := by
    intro a τ' H locs ls g1 g2 g3 g4 g5 g6 g7 h hl
    refine lv_aload_n S.1 S.2.1 dX2_insert_42 rfl (lv_at hl 1 rfl) ?_
    refine cv_gf (ci := 2) (C := RX2) (T := TX2) (N := 4) (v := .ref (E.2.1 (v + 16))) S K h (v + 13) (cv_kdV v hv).2.1 hinX2 (cv_fsL hv) rfl 0 (by decide) hf_9 rfl rfl dX2_insert_43 ?_
    refine lv_iload S.1 S.2.1 dX2_insert_46 (lv_at hl 0 rfl) ?_
    refine lv_lload_n S.1 S.2.1 dX2_insert_48 rfl (lv_at hl 2 rfl) ?_
    refine cv_last (x := nm) S K h (v + 16) (cv_kdV v hv).2.2.1 (cv_kdV v hv).2.2.2.2.2.1 a rfl (by omega) dX2_insert_49 (fun σ5 H locs eσ5 h => ?_)
    refine lv_aload_n S.1 S.2.1 dX2_insert_50 rfl (lv_at hl 1 rfl) ?_
    refine cv_gf (ci := 2) (C := RX2) (T := TX2) (N := 4) (v := .ref (E.2.1 (v + 19))) S K h (v + 13) (cv_kdV v hv).2.1 hinX2 (cv_fsL hv) rfl 1 (by decide) hf_15 rfl rfl dX2_insert_51 ?_
    refine lv_iload S.1 S.2.1 dX2_insert_54 (lv_at hl 0 rfl) ?_
    refine lv_iconst (v := 0) S.1 S.2.1 dX2_insert_56 (by decide) ?_
    refine cv_iast (x := 0) S K h (v + 19) (cv_kdV v hv).2.2.2.1 (cv_kdV v hv).2.2.2.2.2.2 a rfl (by omega) dX2_insert_57 (fun σ6 H locs eσ6 h => ?_)
    refine lv_aload_n S.1 S.2.1 dX2_insert_58 rfl (lv_at hl 1 rfl) ?_
    refine cv_gf (ci := 2) (C := RX2) (T := TX2) (N := 4) (v := .ref (E.2.1 (v + 22))) S K h (v + 13) (cv_kdV v hv).2.1 hinX2 (cv_fsL hv) rfl 2 (by decide) hf_21 rfl rfl dX2_insert_59 ?_
    refine lv_iload S.1 S.2.1 dX2_insert_62 (lv_at hl 0 rfl) ?_
    refine cv_aald S K h v hv a rfl (by omega) dX2_insert_64 ?_
    refine lv_iconst (v := 0) S.1 S.2.1 dX2_insert_65 (by decide) ?_
    refine lv_lload_n S.1 S.2.1 dX2_insert_66 rfl (lv_at hl 3 rfl) ?_
    refine cv_last (x := xv) S K h (8 * v + a + 25) (cv_kdR v hv a (by omega)).1 (cv_kdR v hv a (by omega)).2 0 rfl (by decide) dX2_insert_67 (fun σ7 H locs eσ7 h => ?_)
    refine lv_aload_n S.1 S.2.1 dX2_insert_68 rfl (lv_at hl 1 rfl) ?_
    refine lv_dup S.1 S.2.1 dX2_insert_69 rfl ?_
    refine cv_gf (ci := 2) (C := RX2) (T := TX2) (N := 4) (v := .int (σ7.2.2.1 (v + 13) 3)) S K h (v + 13) (cv_kdV v hv).2.1 hinX2 (cv_fsL hv) rfl 3 (by decide) hf_24 rfl rfl dX2_insert_70 ?_
    refine lv_iconst (v := 1) S.1 S.2.1 dX2_insert_73 (by decide) ?_
    refine lv_iadd S.1 S.2.1 dX2_insert_74 ?_
    refine lv_topi (fun y9 ey9 => ?_)
    refine cv_pf (ci := 2) (C := RX2) (T := TX2) (N := 4) (x := y9) S K h (v + 13) (cv_kdV v hv).2.1 hinX2 (cv_fsL hv) rfl 3 cv_pok_X2_3 hf_24 rfl rfl rfl (Nat.le_of_ble_eq_true rfl) (cv_fsL hv) dX2_insert_75 (fun σ8 H locs eσ8 h => ?_)
    refine cv_vret S hr hlk hsz h ?_ dX2_insert_78
    have r3 : ∀ q, σ8.2.1 q = if q = v + 16 then vp_updL (τ'.2.1 (v + 16)) a nm else if q = 8 * v + a + 25 then vp_updL (τ'.2.1 (8 * v + a + 25)) 0 xv else τ'.2.1 q := by
      intro q
      have hne : ¬ 8 * v + a + 25 = v + 16 := by omega
      rw [eσ8, cv_F2, eσ7, eσ6, cv_I2, eσ5]
      simp only [cv_J2, cv_I2, if_neg hne]
      by_cases hq : q = 8 * v + a + 25
      · rw [if_pos hq, if_neg (by omega), if_pos hq]
      · rw [if_neg hq, if_neg hq]
    have r1 : ∀ q, σ8.1 q = if q = v + 19 then upd (τ'.1 (v + 19)) a 0 else τ'.1 q := by
      intro q
      rw [eσ8, cv_F1, eσ7, cv_J1, eσ6, eσ5]
      rfl
    have r2 : ∀ q i, σ8.2.2.1 q i = if q = v + 13 then (if i = 3 then nI (cnt + 1) else σ.2.2.1 (v + 13) i) else σ.2.2.1 q i := by
      intro q i
      have hy : y9 = nI (cnt + 1) := by rw [ey9, eσ7, eσ6, eσ5]; show τ'.2.2.1 (v + 13) 3 + 1 = _; rw [g3, q1, nI_1]
      rw [eσ8, cv_F3, hy, eσ7, eσ6, eσ5]
      show (if q = v + 13 then (if i = 3 then nI (cnt + 1) else τ'.2.2.1 (v + 13) i) else τ'.2.2.1 q i) = _
      rw [g3]
    have r4 : σ8.2.2.2 = σ.2.2.2 := by
      rw [eσ8, cv_F4, eσ7, eσ6, eσ5]
      show τ'.2.2.2 = _
      rw [g3]
    refine ⟨g2.trans ⟨fun k hk => by rw [r1, if_neg hk], fun k h1 h2 => by rw [r3, if_neg h1, if_neg (h2 a (by omega))], fun k i hk => ?_, by rw [r4, g3]⟩, a, g1, g6, g7, by rw [r2, if_pos rfl, if_pos rfl], by omega, fun i hi => ?_⟩
    · rw [r2, g3]
      by_cases h1 : k = v + 13
      · rw [if_pos h1, if_neg (by omega), h1]
      · rw [if_neg h1]
    · by_cases hia : i = a
      · subst hia
        refine ⟨by rw [r3, if_pos rfl, pk_uLs]; simp [li_ins], by rw [r1, if_pos rfl, pk_us]; simp [li_ins]; rfl, by simp [li_ins], fun k hk => ?_⟩
        have hk0 : k = 0 := by simp [li_ins] at hk; exact hk
        rw [hk0, r3, if_neg (by omega), if_pos rfl, pk_uLs]
        simp [li_ins]
      · have hE : el_E σ8 v i τ' v i := ⟨by rw [r3, if_pos rfl, pk_uLn hia], by rw [r1, if_pos rfl, pk_un hia], fun k _ => by rw [r3, if_neg (by omega), if_neg (by omega)]⟩
        by_cases hlt : i < a
        · have := (hE.trans (g4 i hlt)).R (q3 i (by omega))
          simpa [li_ins, hlt] using this
        · have := (hE.trans (g5 i (by omega) (by omega))).R (q3 (i - 1) (by omega))
          simpa [li_ins, hlt, hia] using this
  refine cv_loop (α := Unit) (nL := 6) cnt (fun i a τ => el_F v σ τ ∧ τ.2.2 = σ.2.2 ∧ (∀ j, j < cnt - i → el_E τ v j σ v j) ∧ (∀ j, cnt - i < j → j ≤ cnt → el_E τ v j σ v (j - 1)) ∧ (∀ j, cnt - i ≤ j → j < cnt → nm < N j)) (fun i a => [(5, .int (nI (cnt - i))), (0, .ref (E.2.1 (v + 13))), (1, .long nm), (3, .long xv)]) ?_ ?_ 0 () σ _ _ _ (by omega) (⟨el_F.rf, rfl, fun _ _ => el_E.rf, fun j h1 h2 => absurd h1 (by omega), fun j h1 h2 => absurd h2 (by omega)⟩) h hl
  · intro i a τ H locs ls hi hI h hl ih
    have hl : lv_has ls 6 [(5, .int (nI (cnt - i))), (0, .ref (E.2.1 (v + 13))), (1, .long nm), (3, .long xv)] := hl
    obtain ⟨g1, g2, g3, g4, g5⟩ := hI
    refine lv_iload S.1 S.2.1 dX2_insert_6 (lv_at hl 0 rfl) ?_
    refine lv_if_le (tgt := 42) S.1 S.2.1 dX2_insert_8 (by decide) (fun c1 => ?_) (fun c1 => ?_)
    · exact absurd c1 (nI_nle (by omega) (by omega))
    · have hnm : τ.2.1 (v + 16) (cnt - i - 1) = N (cnt - i - 1) := (g3 _ (by omega)).1.trans (q3 _ (by omega)).1
      refine lv_aload_n S.1 S.2.1 dX2_insert_11 rfl (lv_at hl 1 rfl) ?_
      refine cv_gf (ci := 2) (C := RX2) (T := TX2) (N := 4) (v := .ref (E.2.1 (v + 16))) S K h (v + 13) (cv_kdV v hv).2.1 hinX2 (cv_fsL hv) rfl 0 (by decide) hf_9 rfl rfl dX2_insert_12 ?_
      refine lv_iload S.1 S.2.1 dX2_insert_15 (lv_at hl 0 rfl) ?_
      refine lv_iconst (v := 1) S.1 S.2.1 dX2_insert_17 (by decide) ?_
      refine lv_isub S.1 S.2.1 dX2_insert_18 ?_
      refine cv_rei (show (((nI (cnt - i))) - 1) = nI (cnt - i - 1) from pk_sub (a := cnt - i) (b := 1) (by omega)) ?_
      refine cv_lald S K h (v + 16) (cv_kdV v hv).2.2.1 (cv_kdV v hv).2.2.2.2.2.1 (cnt - i - 1) rfl (by omega) dX2_insert_19 ?_
      refine lv_lload_n S.1 S.2.1 dX2_insert_20 rfl (lv_at hl 2 rfl) ?_
      refine W.lcmp S.1 S.2.1 dX2_insert_21 ?_
      refine lv_if_le (tgt := 42) S.1 S.2.1 dX2_insert_22 (by decide) (fun c2 => ?_) (fun c2 => ?_)
      · rw [hnm] at c2
        exact key (cnt - i) τ H locs ls (by omega) g1 g2 g3 g4 g5 (Or.inr (fun q => lg_gt0.mpr q c2)) h hl
      · rw [hnm, lg_gt0] at c2
        refine lv_aload_n S.1 S.2.1 dX2_insert_25 rfl (lv_at hl 1 rfl) ?_
        refine lv_aload_n S.1 S.2.1 dX2_insert_26 rfl (lv_at hl 1 rfl) ?_
        refine lv_iload S.1 S.2.1 dX2_insert_27 (lv_at hl 0 rfl) ?_
        refine lv_iconst (v := 1) S.1 S.2.1 dX2_insert_29 (by decide) ?_
        refine lv_isub S.1 S.2.1 dX2_insert_30 ?_
        refine cv_rei (show (((nI (cnt - i))) - 1) = nI (cnt - i - 1) from pk_sub (a := cnt - i) (b := 1) (by omega)) ?_
        refine lv_iload S.1 S.2.1 dX2_insert_31 (lv_at hl 0 rfl) ?_
        refine cv_callv (ci := 2) (C := RX2) (T := TX2) (N := 4) S K h hl.1 (cv_kdV v hv).2.1 (cv_fsL hv) rfl (c_copyEntry l E τ v v hv hv (cnt - i - 1) (cnt - i) (by omega) (by omega)) (cwV 3 S.2.2.2.2 gX2_insert_X2_copyEntry rfl rfl rfl (by decide +kernel) ⟨Nat.le_of_ble_eq_true rfl, Nat.le_of_ble_eq_true rfl⟩) rfl rfl (Nat.le_of_ble_eq_true rfl) ⟨Nat.zero_le _, Nat.zero_le _⟩ dX2_insert_33 (fun σ9 H locs hq h => ?_)
        obtain ⟨z5, ez5⟩ : ∃ y : Int32, y = ((nI (cnt - i))) + (-1) := ⟨_, rfl⟩
        refine lv_iinc (v := z5) (lv' := [(5, .int z5), (0, .ref (E.2.1 (v + 13))), (1, .long nm), (3, .long xv)]) S.1 S.2.1 dX2_insert_36 hl (k := 0) rfl (by rw [ez5]; rfl) (by decide) rfl (fun ls hl => ?_)
        refine lv_goto (tgt := 6) S.1 S.2.1 dX2_insert_39 (by decide) ?_
        rw [ez5, sb_m1 (by omega), Nat.sub_sub] at hl
        obtain ⟨u1, u2, u3, u4⟩ := hq
        refine ih () σ9 H locs ls ⟨g1.trans u3, u4.trans g2, fun j hj => (u2 j (by omega) (by omega)).trans (g3 j (by omega)), fun j h1 h2 => ?_, fun j h1 h2 => ?_⟩ h hl
        · by_cases hj : j = cnt - i
          · subst hj; exact u1.trans (g3 _ (by omega))
          · exact (u2 j (by omega) hj).trans (g4 j (by omega) h2)
        · by_cases hj : j = cnt - i - 1
          · subst hj; exact c2
          · exact g5 j (by omega) h2
  · intro a τ H locs ls hI h hl
    have hl : lv_has ls 6 [(5, .int (nI (cnt - cnt))), (0, .ref (E.2.1 (v + 13))), (1, .long nm), (3, .long xv)] := hl
    obtain ⟨g1, g2, g3, g4, g5⟩ := hI
    rw [Nat.sub_self] at hl g3 g4 g5
    refine lv_iload S.1 S.2.1 dX2_insert_6 (lv_at hl 0 rfl) ?_
    refine lv_if_le (tgt := 42) S.1 S.2.1 dX2_insert_8 (by decide) (fun c1 => ?_) (fun c1 => ?_)
    · exact key 0 τ H locs ls (by omega) g1 g2 g3 g4 g5 (Or.inl rfl) h hl
    · exact absurd (show nI 0 ≤ 0 from by decide) c1

set_option maxHeartbeats 4000000 in
set_option maxRecDepth 100000 in
/-- the entry at_ goes -/
theorem c_drop (l : Launch) (E : cv_E) (σ : cv_S) (v : Nat) (hv : v < 3) (cnt : Nat) (N : Nat → Int64) (O : Nat → Nat) (V : Nat → Nat → Int64) (hR : el_R σ v cnt N O V) (at_ : Nat) (ha : at_ < cnt) : cv_Mv l E yX2_drop wsX2_drop (cv_R 2) [.ref (E.2.1 (v + 13)), .int (nI at_)] σ (fun τ => el_F v σ τ ∧ el_R τ v (cnt - 1) (li_del N at_) (li_del O at_) (li_del V at_)) := by
  intro sz
  refine cv_in (ws := wsX2_drop) (cc := cX2_drop) (maxL := 3) (ret := none) (own := RX2) rfl (by decide) rfl (Nat.le_of_ble_eq_true rfl) ?_
  intro p e s m below meth c S K hr hlk hsz h ls hl
  have hl : lv_has ls 3 [(0, .ref (E.2.1 (v + 13))), (1, .int (nI at_))] := hl
  have hinX2 : ∀ w ∈ u_ws RX2 TX2 4, w ∈ wsX2_drop := by decide +kernel
  have hf_24 := S.2.2.2.2 (.fieldLink RX2 24 "CrashVault$EntryList" "count" "I") (by decide +kernel)
  obtain ⟨q1, q2, q3⟩ := hR
  refine lv_aload_n S.1 S.2.1 dX2_drop_0 rfl (lv_at hl 0 rfl) ?_
  refine lv_dup S.1 S.2.1 dX2_drop_1 rfl ?_
  refine cv_gf (ci := 2) (C := RX2) (T := TX2) (N := 4) (v := .int (σ.2.2.1 (v + 13) 3)) S K h (v + 13) (cv_kdV v hv).2.1 hinX2 (cv_fsL hv) rfl 3 (by decide) hf_24 rfl rfl dX2_drop_2 ?_
  refine lv_iconst (v := 1) S.1 S.2.1 dX2_drop_5 (by decide) ?_
  refine lv_isub S.1 S.2.1 dX2_drop_6 ?_
  refine cv_rei (show (((σ.2.2.1 (v + 13) 3)) - 1) = nI (cnt - 1) from by rw [q1]; exact pk_sub (b := 1) (by omega)) ?_
  refine lv_topi (fun y9 ey9 => ?_)
  refine cv_pf (ci := 2) (C := RX2) (T := TX2) (N := 4) (x := y9) S K h (v + 13) (cv_kdV v hv).2.1 hinX2 (cv_fsL hv) rfl 3 cv_pok_X2_3 hf_24 rfl rfl rfl (Nat.le_of_ble_eq_true rfl) (cv_fsL hv) dX2_drop_7 (fun σ10 H locs eσ10 h => ?_)
  refine lv_iload_n S.1 S.2.1 dX2_drop_10 rfl (lv_at hl 1 rfl) ?_
  refine lv_istore_n (lv' := [(2, .int (nI at_)), (0, .ref (E.2.1 (v + 13))), (1, .int (nI at_))]) S.1 S.2.1 dX2_drop_11 rfl hl (by decide) rfl (fun ls hl => ?_)
  have hst : el_F v σ σ10 ∧ σ10.2.2.1 (v + 13) 3 = nI (cnt - 1) ∧ ∀ j, el_E σ10 v j σ v j := by
    rw [eσ10]
    refine ⟨⟨fun _ _ => rfl, fun _ _ _ => rfl, fun k i hk => ?_, rfl⟩, ?_, fun j => ⟨rfl, rfl, fun _ _ => rfl⟩⟩
    · rw [cv_F3]
      by_cases h1 : k = v + 13
      · rw [if_pos h1, if_neg (by omega), h1]
      · rw [if_neg h1]
    · rw [cv_F3, if_pos rfl, if_pos rfl]; exact ey9
  refine cv_loop (α := Unit) (nL := 3) (cnt - 1) (fun i a τ => at_ ≤ i ∧ el_F v σ τ ∧ τ.2.2.1 (v + 13) 3 = nI (cnt - 1) ∧ (∀ j, j < cnt → (j < at_ ∨ i ≤ j) → el_E τ v j σ v j) ∧ (∀ j, at_ ≤ j → j < i → el_E τ v j σ v (j + 1))) (fun i a => [(2, .int (nI i)), (0, .ref (E.2.1 (v + 13))), (1, .int (nI at_))]) ?_ ?_ at_ () σ10 _ _ _ (by omega) (⟨Nat.le_refl _, hst.1, hst.2.1, fun j _ _ => hst.2.2 j, fun j h1 h2 => absurd h2 (by omega)⟩) h hl
  · intro i a τ H locs ls hi hI h hl ih
    have hl : lv_has ls 3 [(2, .int (nI i)), (0, .ref (E.2.1 (v + 13))), (1, .int (nI at_))] := hl
    obtain ⟨g0, g1, g2, g3, g4⟩ := hI
    refine lv_iload_n S.1 S.2.1 dX2_drop_12 rfl (lv_at hl 0 rfl) ?_
    refine lv_aload_n S.1 S.2.1 dX2_drop_13 rfl (lv_at hl 1 rfl) ?_
    refine cv_gf (ci := 2) (C := RX2) (T := TX2) (N := 4) (v := .int (τ.2.2.1 (v + 13) 3)) S K h (v + 13) (cv_kdV v hv).2.1 hinX2 (cv_fsL hv) rfl 3 (by decide) hf_24 rfl rfl dX2_drop_14 ?_
    refine lv_icmp_ge (tgt := 35) S.1 S.2.1 dX2_drop_17 (by decide) (fun c1 => ?_) (fun c1 => ?_)
    · rw [g2] at c1
      exact absurd c1 (nI_ge hi (by omega))
    · refine lv_aload_n S.1 S.2.1 dX2_drop_20 rfl (lv_at hl 1 rfl) ?_
      refine lv_aload_n S.1 S.2.1 dX2_drop_21 rfl (lv_at hl 1 rfl) ?_
      refine lv_iload_n S.1 S.2.1 dX2_drop_22 rfl (lv_at hl 0 rfl) ?_
      refine lv_iconst (v := 1) S.1 S.2.1 dX2_drop_23 (by decide) ?_
      refine lv_iadd S.1 S.2.1 dX2_drop_24 ?_
      refine cv_rei (show (((nI i)) + 1) = nI (i + 1) from nI_1 i) ?_
      refine lv_iload_n S.1 S.2.1 dX2_drop_25 rfl (lv_at hl 0 rfl) ?_
      refine cv_callv (ci := 2) (C := RX2) (T := TX2) (N := 4) S K h hl.1 (cv_kdV v hv).2.1 (cv_fsL hv) rfl (c_copyEntry l E τ v v hv hv (i + 1) i (by omega) (by omega)) (cwV 3 S.2.2.2.2 gX2_drop_X2_copyEntry rfl rfl rfl (by decide +kernel) ⟨Nat.le_of_ble_eq_true rfl, Nat.le_of_ble_eq_true rfl⟩) rfl rfl (Nat.le_of_ble_eq_true rfl) ⟨Nat.zero_le _, Nat.zero_le _⟩ dX2_drop_26 (fun σ11 H locs hq h => ?_)
      obtain ⟨z5, ez5⟩ : ∃ y : Int32, y = ((nI i)) + 1 := ⟨_, rfl⟩
      refine lv_iinc (v := z5) (lv' := [(2, .int z5), (0, .ref (E.2.1 (v + 13))), (1, .int (nI at_))]) S.1 S.2.1 dX2_drop_29 hl (k := 0) rfl (by rw [ez5]; rfl) (by decide) rfl (fun ls hl => ?_)
      refine lv_goto (tgt := 12) S.1 S.2.1 dX2_drop_32 (by decide) ?_
      rw [ez5, nI_1] at hl
      obtain ⟨u1, u2, u3, u4⟩ := hq
      refine ih () σ11 H locs ls ⟨by omega, g1.trans u3, by rw [u4]; exact g2, fun j h1 h2 => (u2 j (by omega) (by omega)).trans (g3 j h1 (by omega)), fun j h1 h2 => ?_⟩ h hl
      by_cases hj : j = i
      · subst hj; exact u1.trans (g3 (j + 1) (by omega) (by omega))
      · exact (u2 j (by omega) hj).trans (g4 j h1 (by omega))
  · intro a τ H locs ls hI h hl
    have hl : lv_has ls 3 [(2, .int (nI (cnt - 1))), (0, .ref (E.2.1 (v + 13))), (1, .int (nI at_))] := hl
    obtain ⟨g0, g1, g2, g3, g4⟩ := hI
    refine lv_iload_n S.1 S.2.1 dX2_drop_12 rfl (lv_at hl 0 rfl) ?_
    refine lv_aload_n S.1 S.2.1 dX2_drop_13 rfl (lv_at hl 1 rfl) ?_
    refine cv_gf (ci := 2) (C := RX2) (T := TX2) (N := 4) (v := .int (τ.2.2.1 (v + 13) 3)) S K h (v + 13) (cv_kdV v hv).2.1 hinX2 (cv_fsL hv) rfl 3 (by decide) hf_24 rfl rfl dX2_drop_14 ?_
    refine lv_icmp_ge (tgt := 35) S.1 S.2.1 dX2_drop_17 (by decide) (fun c1 => ?_) (fun c1 => ?_)
    · refine cv_vret S hr hlk hsz h ⟨g1, g2, by omega, fun i hi => ?_⟩ dX2_drop_35
      by_cases hia : i < at_
      · have := (g3 i (by omega) (Or.inl hia)).R (q3 i (by omega))
        simpa [li_del, hia] using this
      · have := (g4 i (by omega) hi).R (q3 (i + 1) (by omega))
        simpa [li_del, hia] using this
    · rw [g2] at c1
      exact absurd (Int32.le_refl _) c1
