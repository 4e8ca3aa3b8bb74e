/-! 42: the class: what it requires -/
theorem nt_IllegalArgumentException_94 : ∀ w ∈ (vx_at0 RX5 94 "java/lang/IllegalArgumentException" ["java/lang/RuntimeException", "java/lang/Exception"]).filter (fun w => !goodWord w), w ∈ cv_ng := by decide +kernel
theorem gt_IllegalArgumentException_92_94 : ∀ w ∈ Cond.classLink RX5 92 "java/lang/IllegalArgumentException" :: Cond.initialized "java/lang/IllegalArgumentException" :: vx_at0 RX5 94 "java/lang/IllegalArgumentException" ["java/lang/RuntimeException", "java/lang/Exception"], vx_ot w = true := by decide +kernel

theorem nt_IllegalStateException_138 : ∀ w ∈ (vx_at0 RX5 138 "java/lang/IllegalStateException" ["java/lang/RuntimeException", "java/lang/Exception"]).filter (fun w => !goodWord w), w ∈ cv_ng := by decide +kernel
theorem gt_IllegalStateException_136_138 : ∀ w ∈ Cond.classLink RX5 136 "java/lang/IllegalStateException" :: Cond.initialized "java/lang/IllegalStateException" :: vx_at0 RX5 138 "java/lang/IllegalStateException" ["java/lang/RuntimeException", "java/lang/Exception"], vx_ot w = true := by decide +kernel

theorem nt_IndexOutOfBoundsException_117 : ∀ w ∈ (vx_at0 RX5 117 "java/lang/IndexOutOfBoundsException" ["java/lang/RuntimeException", "java/lang/Exception"]).filter (fun w => !goodWord w), w ∈ cv_ng := by decide +kernel
theorem gt_IndexOutOfBoundsException_115_117 : ∀ w ∈ Cond.classLink RX5 115 "java/lang/IndexOutOfBoundsException" :: Cond.initialized "java/lang/IndexOutOfBoundsException" :: vx_at0 RX5 117 "java/lang/IndexOutOfBoundsException" ["java/lang/RuntimeException", "java/lang/Exception"], vx_ot w = true := by decide +kernel

theorem nt_NoSuchElementException_77 : ∀ w ∈ (vx_at0 RX5 77 "java/util/NoSuchElementException" ["java/lang/RuntimeException", "java/lang/Exception"]).filter (fun w => !goodWord w), w ∈ cv_ng := by decide +kernel
theorem gt_NoSuchElementException_75_77 : ∀ w ∈ Cond.classLink RX5 75 "java/util/NoSuchElementException" :: Cond.initialized "java/util/NoSuchElementException" :: vx_at0 RX5 77 "java/util/NoSuchElementException" ["java/lang/RuntimeException", "java/lang/Exception"], vx_ot w = true := by decide +kernel

theorem nt_UnsupportedOperationException_107 : ∀ w ∈ (vx_at0 RX5 107 "java/lang/UnsupportedOperationException" ["java/lang/RuntimeException", "java/lang/Exception"]).filter (fun w => !goodWord w), w ∈ cv_ng := by decide +kernel
theorem gt_UnsupportedOperationException_105_107 : ∀ w ∈ Cond.classLink RX5 105 "java/lang/UnsupportedOperationException" :: Cond.initialized "java/lang/UnsupportedOperationException" :: vx_at0 RX5 107 "java/lang/UnsupportedOperationException" ["java/lang/RuntimeException", "java/lang/Exception"], vx_ot w = true := by decide +kernel

theorem okR_of1 {x : Int32} (h1 : ¬ x < 1) (h2 : x ≤ 40) : okR x := by
  obtain ⟨k, hk, rfl⟩ := nI_of (x := x) (fun z => h1 (Int32.lt_trans z (by decide)))
  refine ⟨k, ?_, (nI_leI hk (by decide)).mp h2, rfl⟩
  rcases Nat.lt_or_ge k 1 with z | z
  · exact absurd (nI_lt z (by decide)) h1
  · exact z
theorem okR_not1 {x : Int32} (h : x < 1) : ¬ okR x := by
  rintro ⟨k, k1, k2, rfl⟩
  exact nI_nlt k1 (by omega) h
theorem okR_not2 {x : Int32} (h : ¬ x ≤ 40) : ¬ okR x := by
  rintro ⟨k, k1, k2, rfl⟩
  exact h (nI_le k2 (by decide))

set_option maxHeartbeats 4000000 in
set_option maxRecDepth 100000 in
theorem c_requireOpen (l : Launch) (hst : l.stackTraces = false) (E : cv_E) (σ : cv_S) (op : Int32) (hop : op = 0 ∨ op = 1) (ho : σ.2.2.1 0 5 = op) : cv_Xv l E yX5_requireOpen wsX5_requireOpen 6 1 [.ref (E.2.1 0)] σ (fun τ => op = 1 ∧ τ = σ) (fun nm τ => nm = "java/lang/IllegalStateException" ∧ op = 0 ∧ τ = σ) := by
  intro sz
  refine cvx_in (ws := wsX5_requireOpen) (cc := cX5_requireOpen) (maxL := 1) (ret := none) (own := RX5) rfl (by decide) rfl (Nat.le_of_ble_eq_true rfl) ?_
  intro p e s m below meth c S K X ht hr hlk hsz h ls hl
  have hl : lv_has ls 1 [(0, .ref (E.2.1 0))] := hl
  have hinX5 : ∀ w ∈ u_ws RX5 TX5 7, w ∈ wsX5_requireOpen := by decide +kernel
  have hf_33 := S.2.2.2.2 (.fieldLink RX5 33 "CrashVault" "opened" "Z") (by decide +kernel)
  refine lv_aload_n S.1 S.2.1 dX5_requireOpen_0 rfl (lv_at hl 0 rfl) ?_
  refine cv_gf (ci := 5) (C := RX5) (T := TX5) (N := 7) (v := .int (σ.2.2.1 0 5)) S K h 0 rfl hinX5 rfl rfl 5 (by decide) hf_33 rfl rfl dX5_requireOpen_1 ?_
  refine cv_rei (show (σ.2.2.1 0 5) = op from ho) ?_
  refine lv_if_ne (tgt := 15) S.1 S.2.1 dX5_requireOpen_4 (by decide) (fun c1 => ?_) (fun c1 => ?_)
  · exact cvx_vret S hr hlk hsz h ⟨hop.resolve_left c1, rfl⟩ (by decide) dX5_requireOpen_15
  · exact cvx_throw (cls := "java/lang/IllegalStateException") (ik := 136) (ic := 138) hst S X ht hlk hsz h hl.1 (by decide +kernel) (by decide +kernel) (by decide +kernel) (by decide +kernel) nt_IllegalStateException_138 gt_IllegalStateException_136_138 dX5_requireOpen_7 dX5_requireOpen_10 dX5_requireOpen_11 dX5_requireOpen_14 (by decide) (by decide) (by decide) (⟨rfl, c1, rfl⟩) (by decide)

set_option maxHeartbeats 4000000 in
set_option maxRecDepth 100000 in
theorem c_requireRounds (l : Launch) (hst : l.stackTraces = false) (E : cv_E) (σ : cv_S) (rr : Int32) : cv_Xv l E yX5_requireRounds wsX5_requireRounds 6 1 [.int rr] σ (fun τ => okR rr ∧ τ = σ) (fun nm τ => nm = "java/lang/IllegalArgumentException" ∧ ¬ okR rr ∧ τ = σ) := by
  intro sz
  refine cvx_in (ws := wsX5_requireRounds) (cc := cX5_requireRounds) (maxL := 1) (ret := none) (own := RX5) rfl (by decide) rfl (Nat.le_of_ble_eq_true rfl) ?_
  intro p e s m below meth c S K X ht hr hlk hsz h ls hl
  have hl : lv_has ls 1 [(0, .int rr)] := hl
  refine lv_iload_n S.1 S.2.1 dX5_requireRounds_0 rfl (lv_at hl 0 rfl) ?_
  refine lv_iconst (v := 1) S.1 S.2.1 dX5_requireRounds_1 (by decide) ?_
  refine lv_icmp_lt (tgt := 11) S.1 S.2.1 dX5_requireRounds_2 (by decide) (fun c1 => ?_) (fun c1 => ?_)
  · exact cvx_throw (cls := "java/lang/IllegalArgumentException") (ik := 92) (ic := 94) hst S X ht hlk hsz h hl.1 (by decide +kernel) (by decide +kernel) (by decide +kernel) (by decide +kernel) nt_IllegalArgumentException_94 gt_IllegalArgumentException_92_94 dX5_requireRounds_11 dX5_requireRounds_14 dX5_requireRounds_15 dX5_requireRounds_18 (by decide) (by decide) (by decide) (⟨rfl, okR_not1 c1, rfl⟩) (by decide)
  · refine lv_iload_n S.1 S.2.1 dX5_requireRounds_5 rfl (lv_at hl 0 rfl) ?_
    refine lv_bipush (v := 40) S.1 S.2.1 dX5_requireRounds_6 (by decide) ?_
    refine lv_icmp_le (tgt := 19) S.1 S.2.1 dX5_requireRounds_8 (by decide) (fun c2 => ?_) (fun c2 => ?_)
    · exact cvx_vret S hr hlk hsz h ⟨okR_of1 c1 c2, rfl⟩ (by decide) dX5_requireRounds_19
    · exact cvx_throw (cls := "java/lang/IllegalArgumentException") (ik := 92) (ic := 94) hst S X ht hlk hsz h hl.1 (by decide +kernel) (by decide +kernel) (by decide +kernel) (by decide +kernel) nt_IllegalArgumentException_94 gt_IllegalArgumentException_92_94 dX5_requireRounds_11 dX5_requireRounds_14 dX5_requireRounds_15 dX5_requireRounds_18 (by decide) (by decide) (by decide) (⟨rfl, okR_not2 c2, rfl⟩) (by decide)

set_option maxHeartbeats 4000000 in
set_option maxRecDepth 100000 in
theorem c_requirePower (l : Launch) (hst : l.stackTraces = false) (E : cv_E) (σ : cv_S) (po : Int32) : cv_Xv l E yX5_requirePower wsX5_requirePower 6 1 [.int po] σ (fun τ => ¬ po < 0 ∧ τ = σ) (fun nm τ => nm = "java/lang/IllegalArgumentException" ∧ po < 0 ∧ τ = σ) := by
  intro sz
  refine cvx_in (ws := wsX5_requirePower) (cc := cX5_requirePower) (maxL := 1) (ret := none) (own := RX5) rfl (by decide) rfl (Nat.le_of_ble_eq_true rfl) ?_
  intro p e s m below meth c S K X ht hr hlk hsz h ls hl
  have hl : lv_has ls 1 [(0, .int po)] := hl
  refine lv_iload_n S.1 S.2.1 dX5_requirePower_0 rfl (lv_at hl 0 rfl) ?_
  refine lv_if_ge (tgt := 12) S.1 S.2.1 dX5_requirePower_1 (by decide) (fun c1 => ?_) (fun c1 => ?_)
  · exact cvx_vret S hr hlk hsz h ⟨Int32.not_lt.mpr c1, rfl⟩ (by decide) dX5_requirePower_12
  · exact cvx_throw (cls := "java/lang/IllegalArgumentException") (ik := 92) (ic := 94) hst S X ht hlk hsz h hl.1 (by decide +kernel) (by decide +kernel) (by decide +kernel) (by decide +kernel) nt_IllegalArgumentException_94 gt_IllegalArgumentException_92_94 dX5_requirePower_4 dX5_requirePower_7 dX5_requirePower_8 dX5_requirePower_11 (by decide) (by decide) (by decide) (⟨rfl, Int32.not_le.mp c1, rfl⟩) (by decide)

set_option maxHeartbeats 4000000 in
set_option maxRecDepth 100000 in
theorem c_requireDiskIndex (l : Launch) (hst : l.stackTraces = false) (E : cv_E) (σ : cv_S) (i : Int32) : cv_Xv l E yX5_requireDiskIndex wsX5_requireDiskIndex 6 1 [.int i] σ (fun τ => (∃ j, j < 600 ∧ i = nI j) ∧ τ = σ) (fun nm τ => nm = "java/lang/IndexOutOfBoundsException" ∧ (i < 0 ∨ nI 600 ≤ i) ∧ τ = σ) := by
  intro sz
  refine cvx_in (ws := wsX5_requireDiskIndex) (cc := cX5_requireDiskIndex) (maxL := 1) (ret := none) (own := RX5) rfl (by decide) rfl (Nat.le_of_ble_eq_true rfl) ?_
  intro p e s m below meth c S K X ht hr hlk hsz h ls hl
  have hl : lv_has ls 1 [(0, .int i)] := hl
  refine lv_iload_n S.1 S.2.1 dX5_requireDiskIndex_0 rfl (lv_at hl 0 rfl) ?_
  refine lv_if_lt (tgt := 11) S.1 S.2.1 dX5_requireDiskIndex_1 (by decide) (fun c1 => ?_) (fun c1 => ?_)
  · exact cvx_throw (cls := "java/lang/IndexOutOfBoundsException") (ik := 115) (ic := 117) hst S X ht hlk hsz h hl.1 (by decide +kernel) (by decide +kernel) (by decide +kernel) (by decide +kernel) nt_IndexOutOfBoundsException_117 gt_IndexOutOfBoundsException_115_117 dX5_requireDiskIndex_11 dX5_requireDiskIndex_14 dX5_requireDiskIndex_15 dX5_requireDiskIndex_18 (by decide) (by decide) (by decide) (⟨rfl, Or.inl c1, rfl⟩) (by decide)
  · refine lv_iload_n S.1 S.2.1 dX5_requireDiskIndex_4 rfl (lv_at hl 0 rfl) ?_
    refine lv_sipush (v := 600) S.1 S.2.1 dX5_requireDiskIndex_5 (by decide) ?_
    refine lv_icmp_lt (tgt := 19) S.1 S.2.1 dX5_requireDiskIndex_8 (by decide) (fun c2 => ?_) (fun c2 => ?_)
    · obtain ⟨j, hj, rfl⟩ := nI_of c1
      exact cvx_vret S hr hlk hsz h ⟨⟨j, (nI_ltI hj (by decide)).mp c2, rfl⟩, rfl⟩ (by decide) dX5_requireDiskIndex_19
    · exact cvx_throw (cls := "java/lang/IndexOutOfBoundsException") (ik := 115) (ic := 117) hst S X ht hlk hsz h hl.1 (by decide +kernel) (by decide +kernel) (by decide +kernel) (by decide +kernel) nt_IndexOutOfBoundsException_117 gt_IndexOutOfBoundsException_115_117 dX5_requireDiskIndex_11 dX5_requireDiskIndex_14 dX5_requireDiskIndex_15 dX5_requireDiskIndex_18 (by decide) (by decide) (by decide) (⟨rfl, Or.inr (Int32.not_lt.mp c2), rfl⟩) (by decide)
