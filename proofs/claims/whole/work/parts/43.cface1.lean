/-! 43: the class: its public methods, first part -/
theorem nI_neg1 (i : Nat) (h : i < 2 ^ 31) : nI i ≠ -1 := fun z => by
  have h1 : (0 : Int32) ≤ nI i := nI_le (Nat.zero_le _) h
  rw [z] at h1
  exact absurd h1 (by decide)
/-- the class finds a name -/
def fnY (N : Nat → Int64) (cnt : Nat) (nm : Int64) (a : Nat) : Prop := a < cnt ∧ N a = nm ∧ ∀ j, j < a → N j ≠ nm
def fnN (N : Nat → Int64) (cnt : Nat) (nm : Int64) : Prop := ∀ j, j < cnt → N j ≠ nm
theorem fn_of {σ : cv_S} {cnt : Nat} {N : Nat → Int64} {O : Nat → Nat} {V : Nat → Nat → Int64} {nm : Int64} {r : Int32} (hR : el_R σ 0 cnt N O V) (h : (∃ i, i < cnt ∧ σ.2.1 (0 + 16) i = nm ∧ (∀ j, j < i → σ.2.1 (0 + 16) j ≠ nm) ∧ r = nI i) ∨ ((∀ j, j < cnt → σ.2.1 (0 + 16) j ≠ nm) ∧ r = -1)) : (∃ i, fnY N cnt nm i ∧ r = nI i) ∨ (fnN N cnt nm ∧ r = -1) := by
  rcases h with ⟨i, h1, h2, h3, h4⟩ | ⟨h1, h2⟩
  · refine Or.inl ⟨i, ⟨h1, ?_, fun j hj => ?_⟩, h4⟩
    · rw [← (hR.2.2 i h1).1]; exact h2
    · rw [← (hR.2.2 j (by omega)).1]; exact h3 j hj
  · refine Or.inr ⟨fun j hj => ?_, h2⟩
    rw [← (hR.2.2 j hj).1]; exact h1 j hj

set_option maxHeartbeats 4000000 in
set_option maxRecDepth 100000 in
theorem c_length (l : Launch) (hst : l.stackTraces = false) (E : cv_E) (σ : cv_S) (op : Int32) (hop : op = 0 ∨ op = 1) (ho : σ.2.2.1 0 5 = op) (cnt : Nat) (N : Nat → Int64) (O : Nat → Nat) (V : Nat → Nat → Int64) (hR : op = 1 → el_R σ 0 cnt N O V) : cv_Xi l E yX5_length wsX5_length 7 2 [.ref (E.2.1 0)] σ (fun r τ => op = 1 ∧ r = nI (29 + co_sz O cnt) ∧ τ = σ) (fun nm τ => nm = "java/lang/IllegalStateException" ∧ op = 0 ∧ τ = σ) := by
  intro sz
  refine cvx_in (ws := wsX5_length) (cc := cX5_length) (maxL := 1) (ret := (some .int)) (own := RX5) rfl (by decide) rfl (Nat.le_of_ble_eq_true rfl) ?_
  intro p e s m below meth c S K X ht hr hlk hsz h ls hl
  have hl : lv_has ls 1 [(0, .ref (E.2.1 0))] := hl
  have hinX5 : ∀ w ∈ u_ws RX5 TX5 7, w ∈ wsX5_length := by decide +kernel
  have hf_16 := S.2.2.2.2 (.fieldLink RX5 16 "CrashVault" "form" "LCrashVault$FileForm;") (by decide +kernel)
  have hf_23 := S.2.2.2.2 (.fieldLink RX5 23 "CrashVault" "vault" "LCrashVault$Vault;") (by decide +kernel)
  refine lv_aload_n S.1 S.2.1 dX5_length_0 rfl (lv_at hl 0 rfl) ?_
  refine cvx_callv (ci := 5) (C := RX5) (T := TX5) (N := 7) S K X h hl.1 rfl rfl rfl (c_requireOpen l hst E σ op hop ho) (cwV 0 S.2.2.2.2 gX5_length_X5_requireOpen rfl rfl rfl (by decide +kernel) ⟨Nat.le_of_ble_eq_true rfl, Nat.le_of_ble_eq_true rfl⟩) rfl rfl (Nat.le_of_ble_eq_true rfl) (by decide) dX5_length_1 (fun nm ce q9 σx H locs hpx h hc1 hc2 hc3 => cvx_out ht hlk hsz h (hpx) hc1 hc2 hc3 (by decide)) (fun σ1 H locs ⟨ho1, hs9⟩ h => ?_)
  rw [hs9] at h
  refine lv_aload_n S.1 S.2.1 dX5_length_4 rfl (lv_at hl 0 rfl) ?_
  refine cv_gf (ci := 5) (C := RX5) (T := TX5) (N := 7) (v := .ref (E.2.1 2)) S K h 0 rfl hinX5 rfl rfl 1 (by decide) hf_16 rfl rfl dX5_length_5 ?_
  refine lv_aload_n S.1 S.2.1 dX5_length_8 rfl (lv_at hl 0 rfl) ?_
  refine cv_gf (ci := 5) (C := RX5) (T := TX5) (N := 7) (v := .ref (E.2.1 10)) S K h 0 rfl hinX5 rfl rfl 2 (by decide) hf_23 rfl rfl dX5_length_9 ?_
  refine cv_calli (ci := 3) (C := RX3) (T := TX3) (N := 2) S K h hl.1 rfl rfl rfl (c_fileBytes l E σ 0 (by decide) cnt N O V (hR ho1)) (cwV 1 S.2.2.2.2 gX5_length_X3_fileBytes rfl rfl rfl (by decide +kernel) ⟨Nat.le_of_ble_eq_true rfl, Nat.le_of_ble_eq_true rfl⟩) rfl rfl (Nat.le_of_ble_eq_true rfl) (by decide) dX5_length_12 (fun r3 σ2 H locs ⟨hq, hs9⟩ h => ?_)
  rw [hs9] at h
  exact cvx_iret S hr hlk hsz h ⟨ho1, hq, rfl⟩ (by decide) dX5_length_15

set_option maxHeartbeats 4000000 in
set_option maxRecDepth 100000 in
theorem c_serial (l : Launch) (hst : l.stackTraces = false) (E : cv_E) (σ : cv_S) (op : Int32) (hop : op = 0 ∨ op = 1) (ho : σ.2.2.1 0 5 = op) : cv_Xi l E yX5_serial wsX5_serial 7 2 [.ref (E.2.1 0)] σ (fun r τ => op = 1 ∧ r = σ.2.2.1 10 4 ∧ τ = σ) (fun nm τ => nm = "java/lang/IllegalStateException" ∧ op = 0 ∧ τ = σ) := by
  intro sz
  refine cvx_in (ws := wsX5_serial) (cc := cX5_serial) (maxL := 1) (ret := (some .int)) (own := RX5) rfl (by decide) rfl (Nat.le_of_ble_eq_true rfl) ?_
  intro p e s m below meth c S K X ht hr hlk hsz h ls hl
  have hl : lv_has ls 1 [(0, .ref (E.2.1 0))] := hl
  have hinX4 : ∀ w ∈ u_ws RX4 TX4 5, w ∈ wsX5_serial := by decide +kernel
  have hinX5 : ∀ w ∈ u_ws RX5 TX5 7, w ∈ wsX5_serial := by decide +kernel
  have hf_23 := S.2.2.2.2 (.fieldLink RX5 23 "CrashVault" "vault" "LCrashVault$Vault;") (by decide +kernel)
  refine lv_aload_n S.1 S.2.1 dX5_serial_0 rfl (lv_at hl 0 rfl) ?_
  refine cvx_callv (ci := 5) (C := RX5) (T := TX5) (N := 7) S K X h hl.1 rfl rfl rfl (c_requireOpen l hst E σ op hop ho) (cwV 0 S.2.2.2.2 gX5_serial_X5_requireOpen rfl rfl rfl (by decide +kernel) ⟨Nat.le_of_ble_eq_true rfl, Nat.le_of_ble_eq_true rfl⟩) rfl rfl (Nat.le_of_ble_eq_true rfl) (by decide) dX5_serial_1 (fun nm ce q9 σx H locs hpx h hc1 hc2 hc3 => cvx_out ht hlk hsz h (hpx) hc1 hc2 hc3 (by decide)) (fun σ4 H locs ⟨ho1, hs9⟩ h => ?_)
  rw [hs9] at h
  refine lv_aload_n S.1 S.2.1 dX5_serial_4 rfl (lv_at hl 0 rfl) ?_
  refine cv_gf (ci := 5) (C := RX5) (T := TX5) (N := 7) (v := .ref (E.2.1 10)) S K h 0 rfl hinX5 rfl rfl 2 (by decide) hf_23 rfl rfl dX5_serial_5 ?_
  refine cv_gfN (ci := 4) (C := RX4) (T := TX4) (N := 5) (v := .int (σ.2.2.1 10 4)) S K h 10 rfl hinX4 rfl rfl 4 (by decide) (cv_nest_9 K) rfl rfl dX5_serial_8 ?_
  exact cvx_iret S hr hlk hsz h ⟨ho1, rfl, rfl⟩ (by decide) dX5_serial_11

set_option maxHeartbeats 4000000 in
set_option maxRecDepth 100000 in
theorem c_entries (l : Launch) (hst : l.stackTraces = false) (E : cv_E) (σ : cv_S) (op : Int32) (hop : op = 0 ∨ op = 1) (ho : σ.2.2.1 0 5 = op) : cv_Xi l E yX5_entries wsX5_entries 7 2 [.ref (E.2.1 0)] σ (fun r τ => op = 1 ∧ r = σ.2.2.1 13 3 ∧ τ = σ) (fun nm τ => nm = "java/lang/IllegalStateException" ∧ op = 0 ∧ τ = σ) := by
  intro sz
  refine cvx_in (ws := wsX5_entries) (cc := cX5_entries) (maxL := 1) (ret := (some .int)) (own := RX5) rfl (by decide) rfl (Nat.le_of_ble_eq_true rfl) ?_
  intro p e s m below meth c S K X ht hr hlk hsz h ls hl
  have hl : lv_has ls 1 [(0, .ref (E.2.1 0))] := hl
  have hinX2 : ∀ w ∈ u_ws RX2 TX2 4, w ∈ wsX5_entries := by decide +kernel
  have hinX4 : ∀ w ∈ u_ws RX4 TX4 5, w ∈ wsX5_entries := by decide +kernel
  have hinX5 : ∀ w ∈ u_ws RX5 TX5 7, w ∈ wsX5_entries := by decide +kernel
  have hf_23 := S.2.2.2.2 (.fieldLink RX5 23 "CrashVault" "vault" "LCrashVault$Vault;") (by decide +kernel)
  refine lv_aload_n S.1 S.2.1 dX5_entries_0 rfl (lv_at hl 0 rfl) ?_
  refine cvx_callv (ci := 5) (C := RX5) (T := TX5) (N := 7) S K X h hl.1 rfl rfl rfl (c_requireOpen l hst E σ op hop ho) (cwV 0 S.2.2.2.2 gX5_entries_X5_requireOpen rfl rfl rfl (by decide +kernel) ⟨Nat.le_of_ble_eq_true rfl, Nat.le_of_ble_eq_true rfl⟩) rfl rfl (Nat.le_of_ble_eq_true rfl) (by decide) dX5_entries_1 (fun nm ce q9 σx H locs hpx h hc1 hc2 hc3 => cvx_out ht hlk hsz h (hpx) hc1 hc2 hc3 (by decide)) (fun σ5 H locs ⟨ho1, hs9⟩ h => ?_)
  rw [hs9] at h
  refine lv_aload_n S.1 S.2.1 dX5_entries_4 rfl (lv_at hl 0 rfl) ?_
  refine cv_gf (ci := 5) (C := RX5) (T := TX5) (N := 7) (v := .ref (E.2.1 10)) S K h 0 rfl hinX5 rfl rfl 2 (by decide) hf_23 rfl rfl dX5_entries_5 ?_
  refine cv_gfN (ci := 4) (C := RX4) (T := TX4) (N := 5) (v := .ref (E.2.1 13)) S K h 10 rfl hinX4 rfl rfl 0 (by decide) (cv_nest_10 K) rfl rfl dX5_entries_8 ?_
  refine cv_gfN (ci := 2) (C := RX2) (T := TX2) (N := 4) (v := .int (σ.2.2.1 13 3)) S K h 13 rfl hinX2 rfl rfl 3 (by decide) (cv_nest_0 K) rfl rfl dX5_entries_11 ?_
  exact cvx_iret S hr hlk hsz h ⟨ho1, rfl, rfl⟩ (by decide) dX5_entries_14

set_option maxHeartbeats 4000000 in
set_option maxRecDepth 100000 in
theorem c_renew (l : Launch) (hst : l.stackTraces = false) (E : cv_E) (σ : cv_S) (op : Int32) (hop : op = 0 ∨ op = 1) (ho : σ.2.2.1 0 5 = op) (pw : Int64) (rr : Int32) : cv_Xv l E yX5_renew wsX5_renew 7 2 [.ref (E.2.1 0), .long pw, .int rr] σ (fun τ => op = 1 ∧ okR rr ∧ τ = cv_uF (cv_uG σ 10 1 pw) 10 3 rr) (fun nm τ => (nm = "java/lang/IllegalStateException" ∧ op = 0 ∧ τ = σ) ∨ (nm = "java/lang/IllegalArgumentException" ∧ op = 1 ∧ ¬ okR rr ∧ τ = σ)) := by
  intro sz
  refine cvx_in (ws := wsX5_renew) (cc := cX5_renew) (maxL := 4) (ret := none) (own := RX5) rfl (by decide) rfl (Nat.le_of_ble_eq_true rfl) ?_
  intro p e s m below meth c S K X ht hr hlk hsz h ls hl
  have hl : lv_has ls 4 [(0, .ref (E.2.1 0)), (1, .long pw), (3, .int rr)] := hl
  have hinX4 : ∀ w ∈ u_ws RX4 TX4 5, w ∈ wsX5_renew := by decide +kernel
  have hinX5 : ∀ w ∈ u_ws RX5 TX5 7, w ∈ wsX5_renew := by decide +kernel
  have hf_23 := S.2.2.2.2 (.fieldLink RX5 23 "CrashVault" "vault" "LCrashVault$Vault;") (by decide +kernel)
  refine lv_aload_n S.1 S.2.1 dX5_renew_0 rfl (lv_at hl 0 rfl) ?_
  refine cvx_callv (ci := 5) (C := RX5) (T := TX5) (N := 7) S K X h hl.1 rfl rfl rfl (c_requireOpen l hst E σ op hop ho) (cwV 0 S.2.2.2.2 gX5_renew_X5_requireOpen rfl rfl rfl (by decide +kernel) ⟨Nat.le_of_ble_eq_true rfl, Nat.le_of_ble_eq_true rfl⟩) rfl rfl (Nat.le_of_ble_eq_true rfl) (by decide) dX5_renew_1 (fun nm ce q9 σx H locs hpx h hc1 hc2 hc3 => cvx_out ht hlk hsz h (Or.inl hpx) hc1 hc2 hc3 (by decide)) (fun σ6 H locs ⟨ho1, hs9⟩ h => ?_)
  rw [hs9] at h
  refine lv_iload_n S.1 S.2.1 dX5_renew_4 rfl (lv_at hl 2 rfl) ?_
  refine cvx_callsv S K X h hl.1 (c_requireRounds l hst E σ rr) (va_cwS 1 S.2.2.2.2 gX5_renew_X5_requireRounds rfl rfl rfl (by decide +kernel) ⟨Nat.le_of_ble_eq_true rfl, Nat.le_of_ble_eq_true rfl⟩) rfl rfl (Nat.le_of_ble_eq_true rfl) (by decide) dX5_renew_5 (fun nm ce q9 σx H locs hpx h hc1 hc2 hc3 => cvx_out ht hlk hsz h (Or.inr ⟨hpx.1, ho1, hpx.2⟩) hc1 hc2 hc3 (by decide)) (fun σ7 H locs ⟨hrr, hs9⟩ h => ?_)
  rw [hs9] at h
  refine lv_aload_n S.1 S.2.1 dX5_renew_8 rfl (lv_at hl 0 rfl) ?_
  refine cv_gf (ci := 5) (C := RX5) (T := TX5) (N := 7) (v := .ref (E.2.1 10)) S K h 0 rfl hinX5 rfl rfl 2 (by decide) hf_23 rfl rfl dX5_renew_9 ?_
  refine lv_lload_n S.1 S.2.1 dX5_renew_12 rfl (lv_at hl 1 rfl) ?_
  refine cv_plN (ci := 4) (C := RX4) (T := TX4) (N := 5) (x := pw) S K h 10 rfl hinX4 rfl rfl 1 cv_pok_X4_1 (cv_nest_6 K) rfl (Nat.le_of_ble_eq_true rfl) rfl dX5_renew_13 (fun σ8 H locs eσ8 h => ?_)
  refine lv_aload_n S.1 S.2.1 dX5_renew_16 rfl (lv_at hl 0 rfl) ?_
  refine cv_gf (ci := 5) (C := RX5) (T := TX5) (N := 7) (v := .ref (E.2.1 10)) S K h 0 rfl hinX5 rfl rfl 2 (by decide) hf_23 rfl rfl dX5_renew_17 ?_
  refine lv_iload_n S.1 S.2.1 dX5_renew_20 rfl (lv_at hl 2 rfl) ?_
  refine cv_pfN (ci := 4) (C := RX4) (T := TX4) (N := 5) (x := rr) S K h 10 rfl hinX4 rfl rfl 3 cv_pok_X4_3 (cv_nest_8 K) rfl rfl rfl (Nat.le_of_ble_eq_true rfl) rfl dX5_renew_21 (fun σ9 H locs eσ9 h => ?_)
  exact cvx_vret S hr hlk hsz h ⟨ho1, hrr, by rw [eσ9, eσ8]⟩ (by decide) dX5_renew_24

set_option maxHeartbeats 4000000 in
set_option maxRecDepth 100000 in
theorem c_name (l : Launch) (hst : l.stackTraces = false) (E : cv_E) (σ : cv_S) (op : Int32) (hop : op = 0 ∨ op = 1) (ho : σ.2.2.1 0 5 = op) (cnt : Nat) (N : Nat → Int64) (O : Nat → Nat) (V : Nat → Nat → Int64) (hR : op = 1 → el_R σ 0 cnt N O V) (i : Int32) : cv_Xl l E yX5_name wsX5_name 7 2 [.ref (E.2.1 0), .int i] σ (fun r τ => op = 1 ∧ (∃ j, j < cnt ∧ i = nI j ∧ r = N j) ∧ τ = σ) (fun nm τ => (nm = "java/lang/IllegalStateException" ∧ op = 0 ∧ τ = σ) ∨ (nm = "java/lang/IndexOutOfBoundsException" ∧ op = 1 ∧ (i < 0 ∨ nI cnt ≤ i) ∧ τ = σ)) := by
  intro sz
  refine cvx_in (ws := wsX5_name) (cc := cX5_name) (maxL := 2) (ret := (some .long)) (own := RX5) rfl (by decide) rfl (Nat.le_of_ble_eq_true rfl) ?_
  intro p e s m below meth c S K X ht hr hlk hsz h ls hl
  have hl : lv_has ls 2 [(0, .ref (E.2.1 0)), (1, .int i)] := hl
  have hinX2 : ∀ w ∈ u_ws RX2 TX2 4, w ∈ wsX5_name := by decide +kernel
  have hinX4 : ∀ w ∈ u_ws RX4 TX4 5, w ∈ wsX5_name := by decide +kernel
  have hinX5 : ∀ w ∈ u_ws RX5 TX5 7, w ∈ wsX5_name := by decide +kernel
  have hf_23 := S.2.2.2.2 (.fieldLink RX5 23 "CrashVault" "vault" "LCrashVault$Vault;") (by decide +kernel)
  refine lv_aload_n S.1 S.2.1 dX5_name_0 rfl (lv_at hl 0 rfl) ?_
  refine cvx_callv (ci := 5) (C := RX5) (T := TX5) (N := 7) S K X h hl.1 rfl rfl rfl (c_requireOpen l hst E σ op hop ho) (cwV 0 S.2.2.2.2 gX5_name_X5_requireOpen rfl rfl rfl (by decide +kernel) ⟨Nat.le_of_ble_eq_true rfl, Nat.le_of_ble_eq_true rfl⟩) rfl rfl (Nat.le_of_ble_eq_true rfl) (by decide) dX5_name_1 (fun nm ce q9 σx H locs hpx h hc1 hc2 hc3 => cvx_out ht hlk hsz h (Or.inl hpx) hc1 hc2 hc3 (by decide)) (fun σ10 H locs ⟨ho1, hs9⟩ h => ?_)
  rw [hs9] at h
  have q := hR ho1
  refine lv_iload_n S.1 S.2.1 dX5_name_4 rfl (lv_at hl 1 rfl) ?_
  refine lv_if_lt (tgt := 22) S.1 S.2.1 dX5_name_5 (by decide) (fun c1 => ?_) (fun c1 => ?_)
  · exact cvx_throw (cls := "java/lang/IndexOutOfBoundsException") (ik := 115) (ic := 117) hst S X ht hlk hsz h hl.1 (by decide +kernel) (by decide +kernel) (by decide +kernel) (by decide +kernel) nt_IndexOutOfBoundsException_117 gt_IndexOutOfBoundsException_115_117 dX5_name_22 dX5_name_25 dX5_name_26 dX5_name_29 (by decide) (by decide) (by decide) (Or.inr ⟨rfl, ho1, Or.inl c1, rfl⟩) (by decide)
  · refine lv_iload_n S.1 S.2.1 dX5_name_8 rfl (lv_at hl 1 rfl) ?_
    refine lv_aload_n S.1 S.2.1 dX5_name_9 rfl (lv_at hl 0 rfl) ?_
    refine cv_gf (ci := 5) (C := RX5) (T := TX5) (N := 7) (v := .ref (E.2.1 10)) S K h 0 rfl hinX5 rfl rfl 2 (by decide) hf_23 rfl rfl dX5_name_10 ?_
    refine cv_gfN (ci := 4) (C := RX4) (T := TX4) (N := 5) (v := .ref (E.2.1 13)) S K h 10 rfl hinX4 rfl rfl 0 (by decide) (cv_nest_10 K) rfl rfl dX5_name_13 ?_
    refine cv_gfN (ci := 2) (C := RX2) (T := TX2) (N := 4) (v := .int (σ.2.2.1 13 3)) S K h 13 rfl hinX2 rfl rfl 3 (by decide) (cv_nest_0 K) rfl rfl dX5_name_16 ?_
    refine cv_rei (show (σ.2.2.1 13 3) = nI cnt from q.1) ?_
    refine lv_icmp_lt (tgt := 30) S.1 S.2.1 dX5_name_19 (by decide) (fun c2 => ?_) (fun c2 => ?_)
    · obtain ⟨j, hj, rfl⟩ := nI_of c1
      have hjc : j < cnt := (nI_ltI hj (by have := q.2.1; omega)).mp c2
      have hc8 := q.2.1
      refine lv_aload_n S.1 S.2.1 dX5_name_30 rfl (lv_at hl 0 rfl) ?_
      refine cv_gf (ci := 5) (C := RX5) (T := TX5) (N := 7) (v := .ref (E.2.1 10)) S K h 0 rfl hinX5 rfl rfl 2 (by decide) hf_23 rfl rfl dX5_name_31 ?_
      refine cv_gfN (ci := 4) (C := RX4) (T := TX4) (N := 5) (v := .ref (E.2.1 13)) S K h 10 rfl hinX4 rfl rfl 0 (by decide) (cv_nest_10 K) rfl rfl dX5_name_34 ?_
      refine cv_gfN (ci := 2) (C := RX2) (T := TX2) (N := 4) (v := .ref (E.2.1 16)) S K h 13 rfl hinX2 rfl rfl 0 (by decide) (cv_nest_1 K) rfl rfl dX5_name_37 ?_
      refine lv_iload_n S.1 S.2.1 dX5_name_40 rfl (lv_at hl 1 rfl) ?_
      refine cv_lald S K h 16 rfl (n := 8) rfl j rfl (by omega) dX5_name_41 ?_
      refine cv_rel (show (σ.2.1 16 j) = N j from (q.2.2 j hjc).1) ?_
      exact cvx_lret S hr hlk hsz h ⟨ho1, ⟨j, hjc, rfl, rfl⟩, rfl⟩ (by decide) dX5_name_42
    · exact cvx_throw (cls := "java/lang/IndexOutOfBoundsException") (ik := 115) (ic := 117) hst S X ht hlk hsz h hl.1 (by decide +kernel) (by decide +kernel) (by decide +kernel) (by decide +kernel) nt_IndexOutOfBoundsException_117 gt_IndexOutOfBoundsException_115_117 dX5_name_22 dX5_name_25 dX5_name_26 dX5_name_29 (by decide) (by decide) (by decide) (Or.inr ⟨rfl, ho1, Or.inr (Int32.not_lt.mp c2), rfl⟩) (by decide)

set_option maxHeartbeats 4000000 in
set_option maxRecDepth 100000 in
theorem c_disk (l : Launch) (hst : l.stackTraces = false) (E : cv_E) (σ : cv_S) (i : Int32) : cv_Xi l E yX5_disk wsX5_disk 7 2 [.ref (E.2.1 0), .int i] σ (fun r τ => (∃ j, j < 600 ∧ i = nI j ∧ r = σ.1 1 j) ∧ τ = σ) (fun nm τ => nm = "java/lang/IndexOutOfBoundsException" ∧ (i < 0 ∨ nI 600 ≤ i) ∧ τ = σ) := by
  intro sz
  refine cvx_in (ws := wsX5_disk) (cc := cX5_disk) (maxL := 2) (ret := (some .int)) (own := RX5) rfl (by decide) rfl (Nat.le_of_ble_eq_true rfl) ?_
  intro p e s m below meth c S K X ht hr hlk hsz h ls hl
  have hl : lv_has ls 2 [(0, .ref (E.2.1 0)), (1, .int i)] := hl
  have hinX5 : ∀ w ∈ u_ws RX5 TX5 7, w ∈ wsX5_disk := by decide +kernel
  have hf_9 := S.2.2.2.2 (.fieldLink RX5 9 "CrashVault" "diskBytes" "[I") (by decide +kernel)
  refine lv_iload_n S.1 S.2.1 dX5_disk_0 rfl (lv_at hl 1 rfl) ?_
  refine cvx_callsv S K X h hl.1 (c_requireDiskIndex l hst E σ i) (va_cwS 1 S.2.2.2.2 gX5_disk_X5_requireDiskIndex rfl rfl rfl (by decide +kernel) ⟨Nat.le_of_ble_eq_true rfl, Nat.le_of_ble_eq_true rfl⟩) rfl rfl (Nat.le_of_ble_eq_true rfl) (by decide) dX5_disk_1 (fun nm ce q9 σx H locs hpx h hc1 hc2 hc3 => cvx_out ht hlk hsz h (hpx) hc1 hc2 hc3 (by decide)) (fun σ11 H locs ⟨⟨j, hj, hij⟩, hs9⟩ h => ?_)
  rw [hs9] at h
  subst hij
  refine lv_aload_n S.1 S.2.1 dX5_disk_4 rfl (lv_at hl 0 rfl) ?_
  refine cv_gf (ci := 5) (C := RX5) (T := TX5) (N := 7) (v := .ref (E.2.1 1)) S K h 0 rfl hinX5 rfl rfl 0 (by decide) hf_9 rfl rfl dX5_disk_5 ?_
  refine lv_iload_n S.1 S.2.1 dX5_disk_8 rfl (lv_at hl 1 rfl) ?_
  refine cv_iald S K h 1 rfl (n := 600) rfl j rfl hj dX5_disk_9 ?_
  exact cvx_iret S hr hlk hsz h ⟨⟨j, hj, rfl, rfl⟩, rfl⟩ (by decide) dX5_disk_10

set_option maxHeartbeats 4000000 in
set_option maxRecDepth 100000 in
theorem c_spoil (l : Launch) (hst : l.stackTraces = false) (E : cv_E) (σ : cv_S) (i bits : Int32) : cv_Xv l E yX5_spoil wsX5_spoil 7 2 [.ref (E.2.1 0), .int i, .int bits] σ (fun τ => ∃ j, j < 600 ∧ i = nI j ∧ τ = cv_uI σ 1 (upd (σ.1 1) j (σ.1 1 j ^^^ (bits &&& 255)))) (fun nm τ => nm = "java/lang/IndexOutOfBoundsException" ∧ (i < 0 ∨ nI 600 ≤ i) ∧ τ = σ) := by
  intro sz
  refine cvx_in (ws := wsX5_spoil) (cc := cX5_spoil) (maxL := 3) (ret := none) (own := RX5) rfl (by decide) rfl (Nat.le_of_ble_eq_true rfl) ?_
  intro p e s m below meth c S K X ht hr hlk hsz h ls hl
  have hl : lv_has ls 3 [(0, .ref (E.2.1 0)), (1, .int i), (2, .int bits)] := hl
  have hinX5 : ∀ w ∈ u_ws RX5 TX5 7, w ∈ wsX5_spoil := by decide +kernel
  have hf_9 := S.2.2.2.2 (.fieldLink RX5 9 "CrashVault" "diskBytes" "[I") (by decide +kernel)
  refine lv_iload_n S.1 S.2.1 dX5_spoil_0 rfl (lv_at hl 1 rfl) ?_
  refine cvx_callsv S K X h hl.1 (c_requireDiskIndex l hst E σ i) (va_cwS 1 S.2.2.2.2 gX5_spoil_X5_requireDiskIndex rfl rfl rfl (by decide +kernel) ⟨Nat.le_of_ble_eq_true rfl, Nat.le_of_ble_eq_true rfl⟩) rfl rfl (Nat.le_of_ble_eq_true rfl) (by decide) dX5_spoil_1 (fun nm ce q9 σx H locs hpx h hc1 hc2 hc3 => cvx_out ht hlk hsz h (hpx) hc1 hc2 hc3 (by decide)) (fun σ12 H locs ⟨⟨j, hj, hij⟩, hs9⟩ h => ?_)
  rw [hs9] at h
  subst hij
  refine lv_aload_n S.1 S.2.1 dX5_spoil_4 rfl (lv_at hl 0 rfl) ?_
  refine cv_gf (ci := 5) (C := RX5) (T := TX5) (N := 7) (v := .ref (E.2.1 1)) S K h 0 rfl hinX5 rfl rfl 0 (by decide) hf_9 rfl rfl dX5_spoil_5 ?_
  refine lv_iload_n S.1 S.2.1 dX5_spoil_8 rfl (lv_at hl 1 rfl) ?_
  refine lv_dup2_11 S.1 S.2.1 dX5_spoil_9 rfl rfl ?_
  refine cv_iald S K h 1 rfl (n := 600) rfl j rfl hj dX5_spoil_10 ?_
  refine lv_iload_n S.1 S.2.1 dX5_spoil_11 rfl (lv_at hl 2 rfl) ?_
  refine lv_sipush (v := 255) S.1 S.2.1 dX5_spoil_12 (by decide) ?_
  refine lv_iand S.1 S.2.1 dX5_spoil_15 ?_
  refine lv_ixor S.1 S.2.1 dX5_spoil_16 ?_
  refine lv_topi (fun bx ebx => ?_)
  refine cv_iast (x := bx) S K h 1 rfl (n := 600) rfl j rfl hj dX5_spoil_17 (fun σ13 H locs eσ13 h => ?_)
  exact cvx_vret S hr hlk hsz h ⟨j, hj, rfl, by rw [eσ13, ebx]⟩ (by decide) dX5_spoil_18

set_option maxHeartbeats 4000000 in
set_option maxRecDepth 100000 in
theorem c_isGood (l : Launch) (hst : l.stackTraces = false) (E : cv_E) (σ : cv_S) (dv : Nat → Nat) (hdv : by_R (σ.1 1) dv 600) (sl : Int32) (pw : Int64) : cv_Xi l E yX5_isGood wsX5_isGood 7 2 [.ref (E.2.1 0), .int sl, .long pw] σ (fun r τ => ∃ j, j < 2 ∧ sl = nI j ∧ ng_F σ τ ∧ ((r = 1 ∧ gd (fun q => dv (300 * j + q)) pw) ∨ (r = 0 ∧ ¬ gd (fun q => dv (300 * j + q)) pw))) (fun nm τ => nm = "java/lang/IndexOutOfBoundsException" ∧ (sl < 0 ∨ nI 2 ≤ sl) ∧ τ = σ) := by
  intro sz
  refine cvx_in (ws := wsX5_isGood) (cc := cX5_isGood) (maxL := 4) (ret := (some .boolean)) (own := RX5) rfl (by decide) rfl (Nat.le_of_ble_eq_true rfl) ?_
  intro p e s m below meth c S K X ht hr hlk hsz h ls hl
  have hl : lv_has ls 4 [(0, .ref (E.2.1 0)), (1, .int sl), (2, .long pw)] := hl
  have hinX5 : ∀ w ∈ u_ws RX5 TX5 7, w ∈ wsX5_isGood := by decide +kernel
  have hf_16 := S.2.2.2.2 (.fieldLink RX5 16 "CrashVault" "form" "LCrashVault$FileForm;") (by decide +kernel)
  have hf_27 := S.2.2.2.2 (.fieldLink RX5 27 "CrashVault" "found0" "LCrashVault$Vault;") (by decide +kernel)
  have hf_9 := S.2.2.2.2 (.fieldLink RX5 9 "CrashVault" "diskBytes" "[I") (by decide +kernel)
  refine lv_iload_n S.1 S.2.1 dX5_isGood_0 rfl (lv_at hl 1 rfl) ?_
  refine lv_if_lt (tgt := 9) S.1 S.2.1 dX5_isGood_1 (by decide) (fun c1 => ?_) (fun c1 => ?_)
  · exact cvx_throw (cls := "java/lang/IndexOutOfBoundsException") (ik := 115) (ic := 117) hst S X ht hlk hsz h hl.1 (by decide +kernel) (by decide +kernel) (by decide +kernel) (by decide +kernel) nt_IndexOutOfBoundsException_117 gt_IndexOutOfBoundsException_115_117 dX5_isGood_9 dX5_isGood_12 dX5_isGood_13 dX5_isGood_16 (by decide) (by decide) (by decide) (⟨rfl, Or.inl c1, rfl⟩) (by decide)
  · refine lv_iload_n S.1 S.2.1 dX5_isGood_4 rfl (lv_at hl 1 rfl) ?_
    refine lv_iconst (v := 1) S.1 S.2.1 dX5_isGood_5 (by decide) ?_
    refine lv_icmp_le (tgt := 17) S.1 S.2.1 dX5_isGood_6 (by decide) (fun c2 => ?_) (fun c2 => ?_)
    · obtain ⟨j, hj, rfl⟩ := nI_of c1
      have hj2 : j ≤ 1 := (nI_leI hj (by decide)).mp c2
      refine lv_aload_n S.1 S.2.1 dX5_isGood_17 rfl (lv_at hl 0 rfl) ?_
      refine cv_gf (ci := 5) (C := RX5) (T := TX5) (N := 7) (v := .ref (E.2.1 2)) S K h 0 rfl hinX5 rfl rfl 1 (by decide) hf_16 rfl rfl dX5_isGood_18 ?_
      refine lv_aload_n S.1 S.2.1 dX5_isGood_21 rfl (lv_at hl 0 rfl) ?_
      refine cv_gf (ci := 5) (C := RX5) (T := TX5) (N := 7) (v := .ref (E.2.1 1)) S K h 0 rfl hinX5 rfl rfl 0 (by decide) hf_9 rfl rfl dX5_isGood_22 ?_
      refine lv_iload_n S.1 S.2.1 dX5_isGood_25 rfl (lv_at hl 1 rfl) ?_
      refine lv_sipush (v := 300) S.1 S.2.1 dX5_isGood_26 (by decide) ?_
      refine lv_imul S.1 S.2.1 dX5_isGood_29 ?_
      refine cv_rei (show (((nI j)) * 300) = nI (300 * j) from by rw [Nat.mul_comm 300 j]; exact pk_mul j 300) ?_
      refine lv_lload_n S.1 S.2.1 dX5_isGood_30 rfl (lv_at hl 2 rfl) ?_
      refine lv_aload_n S.1 S.2.1 dX5_isGood_31 rfl (lv_at hl 0 rfl) ?_
      refine cv_gf (ci := 5) (C := RX5) (T := TX5) (N := 7) (v := .ref (E.2.1 11)) S K h 0 rfl hinX5 rfl rfl 3 (by decide) hf_27 rfl rfl dX5_isGood_32 ?_
      refine cv_calli (ci := 3) (C := RX3) (T := TX3) (N := 2) S K h hl.1 rfl rfl rfl (c_readFile l E σ 1 (by decide) (300 * j) (by omega) (fun q => dv (300 * j + q)) (fun q hq => hdv (300 * j + q) (by omega)) pw) (cwV 4 S.2.2.2.2 gX5_isGood_X3_readFile rfl rfl rfl (by decide +kernel) ⟨Nat.le_of_ble_eq_true rfl, Nat.le_of_ble_eq_true rfl⟩) rfl rfl (Nat.le_of_ble_eq_true rfl) (by decide) dX5_isGood_35 (fun rf σ14 H locs hf h => ?_)
      refine cvx_zret S hr (hf.2.elim (fun z => Or.inr z.1) (fun z => Or.inl z.1)) hlk hsz h ⟨j, by omega, rfl, ng_ff (Or.inl rfl) hf.1, ?_⟩ (by decide) dX5_isGood_38
      exact hf.2.elim (fun z => Or.inl ⟨z.1, z.2.1⟩) (fun z => Or.inr z)
    · exact cvx_throw (cls := "java/lang/IndexOutOfBoundsException") (ik := 115) (ic := 117) hst S X ht hlk hsz h hl.1 (by decide +kernel) (by decide +kernel) (by decide +kernel) (by decide +kernel) nt_IndexOutOfBoundsException_117 gt_IndexOutOfBoundsException_115_117 dX5_isGood_9 dX5_isGood_12 dX5_isGood_13 dX5_isGood_16 (by decide) (by decide) (by decide) (⟨rfl, Or.inr (Int32.not_lt.mp (fun z => c2 (by obtain ⟨j, hj, rfl⟩ := nI_of c1; exact nI_le (b := 1) (by have := (nI_ltI hj (by decide)).mp z; omega) (by decide)))), rfl⟩) (by decide)

set_option maxHeartbeats 4000000 in
set_option maxRecDepth 100000 in
theorem c_put (l : Launch) (hst : l.stackTraces = false) (E : cv_E) (σ : cv_S) (op : Int32) (hop : op = 0 ∨ op = 1) (ho : σ.2.2.1 0 5 = op) (cnt : Nat) (N : Nat → Int64) (O : Nat → Nat) (V : Nat → Nat → Int64) (hR : op = 1 → el_R σ 0 cnt N O V) (nm xv : Int64) : cv_Xi l E yX5_put wsX5_put 7 2 [.ref (E.2.1 0), .long nm, .long xv] σ (fun r τ => op = 1 ∧ nm ≠ 0 ∧ el_F 0 σ τ ∧ ((r = 0 ∧ ∃ a, fnY N cnt nm a ∧ ((V a 0 = xv ∧ τ = σ) ∨ (V a 0 ≠ xv ∧ el_R τ 0 cnt N (ch_O O a) (ch_V V a xv)))) ∨ (r = 1 ∧ fnN N cnt nm ∧ cnt ≤ 7 ∧ ∃ a, a ≤ cnt ∧ (∀ j, a ≤ j → j < cnt → nm < N j) ∧ (a = 0 ∨ ¬ nm < N (a - 1)) ∧ el_R τ 0 (cnt + 1) (li_ins N a nm) (li_ins O a 0) (li_ins V a (fun _ => xv))))) (fun n τ => (n = "java/lang/IllegalStateException" ∧ op = 0 ∧ τ = σ) ∨ (n = "java/lang/IllegalArgumentException" ∧ op = 1 ∧ nm = 0 ∧ τ = σ) ∨ (n = "java/lang/UnsupportedOperationException" ∧ op = 1 ∧ nm ≠ 0 ∧ fnN N cnt nm ∧ cnt = 8 ∧ τ = σ)) := by
  intro sz
  refine cvx_in (ws := wsX5_put) (cc := cX5_put) (maxL := 6) (ret := (some .boolean)) (own := RX5) rfl (by decide) rfl (Nat.le_of_ble_eq_true rfl) ?_
  intro p e s m below meth c S K X ht hr hlk hsz h ls hl
  have hl : lv_has ls 6 [(0, .ref (E.2.1 0)), (1, .long nm), (3, .long xv)] := hl
  have hinX2 : ∀ w ∈ u_ws RX2 TX2 4, w ∈ wsX5_put := by decide +kernel
  have hinX4 : ∀ w ∈ u_ws RX4 TX4 5, w ∈ wsX5_put := by decide +kernel
  have hinX5 : ∀ w ∈ u_ws RX5 TX5 7, w ∈ wsX5_put := by decide +kernel
  have hf_23 := S.2.2.2.2 (.fieldLink RX5 23 "CrashVault" "vault" "LCrashVault$Vault;") (by decide +kernel)
  refine lv_aload_n S.1 S.2.1 dX5_put_0 rfl (lv_at hl 0 rfl) ?_
  refine cvx_callv (ci := 5) (C := RX5) (T := TX5) (N := 7) S K X h hl.1 rfl rfl rfl (c_requireOpen l hst E σ op hop ho) (cwV 0 S.2.2.2.2 gX5_put_X5_requireOpen rfl rfl rfl (by decide +kernel) ⟨Nat.le_of_ble_eq_true rfl, Nat.le_of_ble_eq_true rfl⟩) rfl rfl (Nat.le_of_ble_eq_true rfl) (by decide) dX5_put_1 (fun nm ce q9 σx H locs hpx h hc1 hc2 hc3 => cvx_out ht hlk hsz h (Or.inl hpx) hc1 hc2 hc3 (by decide)) (fun σ15 H locs ⟨ho1, hs9⟩ h => ?_)
  rw [hs9] at h
  have q := hR ho1
  refine lv_lload_n S.1 S.2.1 dX5_put_4 rfl (lv_at hl 1 rfl) ?_
  refine lv_lconst (v := 0) S.1 S.2.1 dX5_put_5 (by decide) ?_
  refine W.lcmp S.1 S.2.1 dX5_put_6 ?_
  refine lv_if_ne (tgt := 18) S.1 S.2.1 dX5_put_7 (by decide) (fun c1 => ?_) (fun c1 => ?_)
  · have hnm : nm ≠ 0 := fun z => c1 (lg_eq0.mpr z)
    refine lv_aload_n S.1 S.2.1 dX5_put_18 rfl (lv_at hl 0 rfl) ?_
    refine cv_gf (ci := 5) (C := RX5) (T := TX5) (N := 7) (v := .ref (E.2.1 10)) S K h 0 rfl hinX5 rfl rfl 2 (by decide) hf_23 rfl rfl dX5_put_19 ?_
    refine cv_gfN (ci := 4) (C := RX4) (T := TX4) (N := 5) (v := .ref (E.2.1 13)) S K h 10 rfl hinX4 rfl rfl 0 (by decide) (cv_nest_10 K) rfl rfl dX5_put_22 ?_
    refine lv_lload_n S.1 S.2.1 dX5_put_25 rfl (lv_at hl 1 rfl) ?_
    refine cv_calli (ci := 2) (C := RX2) (T := TX2) (N := 4) S K h hl.1 rfl rfl rfl (c_find l E σ 0 (by decide) cnt q.2.1 q.1 nm) (cwV 1 S.2.2.2.2 gX5_put_X2_find rfl rfl rfl (by decide +kernel) ⟨Nat.le_of_ble_eq_true rfl, Nat.le_of_ble_eq_true rfl⟩) rfl rfl (Nat.le_of_ble_eq_true rfl) (by decide) dX5_put_26 (fun rf σ16 H locs ⟨hfd, hs9⟩ h => ?_)
    rw [hs9] at h
    have hfn := fn_of q hfd
    refine lv_istore (lv' := [(5, .int rf), (0, .ref (E.2.1 0)), (1, .long nm), (3, .long xv)]) S.1 S.2.1 dX5_put_29 hl (by decide) rfl (fun ls hl => ?_)
    rcases hfn with ⟨i0, f1, f2⟩ | ⟨f1, f2⟩
    · subst f2
      have hc8 := q.2.1
      refine lv_iload S.1 S.2.1 dX5_put_31 (lv_at hl 0 rfl) ?_
      refine lv_iconst (v := (-1)) S.1 S.2.1 dX5_put_33 (by decide) ?_
      refine lv_icmp_eq (tgt := 52) S.1 S.2.1 dX5_put_34 (by decide) (fun c3 => ?_) (fun c3 => ?_)
      · exact absurd c3 (nI_neg1 i0 (by have := f1.1; omega))
      · refine lv_aload_n S.1 S.2.1 dX5_put_37 rfl (lv_at hl 1 rfl) ?_
        refine cv_gf (ci := 5) (C := RX5) (T := TX5) (N := 7) (v := .ref (E.2.1 10)) S K h 0 rfl hinX5 rfl rfl 2 (by decide) hf_23 rfl rfl dX5_put_38 ?_
        refine cv_gfN (ci := 4) (C := RX4) (T := TX4) (N := 5) (v := .ref (E.2.1 13)) S K h 10 rfl hinX4 rfl rfl 0 (by decide) (cv_nest_10 K) rfl rfl dX5_put_41 ?_
        refine lv_iload S.1 S.2.1 dX5_put_44 (lv_at hl 0 rfl) ?_
        refine lv_lload_n S.1 S.2.1 dX5_put_46 rfl (lv_at hl 3 rfl) ?_
        refine cv_callv (ci := 2) (C := RX2) (T := TX2) (N := 4) S K h hl.1 rfl rfl rfl (c_change l E σ 0 (by decide) cnt N O V q i0 f1.1 xv) (cwV 2 S.2.2.2.2 gX5_put_X2_change rfl rfl rfl (by decide +kernel) ⟨Nat.le_of_ble_eq_true rfl, Nat.le_of_ble_eq_true rfl⟩) rfl rfl (Nat.le_of_ble_eq_true rfl) (by decide) dX5_put_47 (fun σ17 H locs hch h => ?_)
        refine lv_iconst (v := 0) S.1 S.2.1 dX5_put_50 (by decide) ?_
        exact cvx_zret S hr (by decide) hlk hsz h ⟨ho1, hnm, hch.1, Or.inl ⟨rfl, i0, f1, hch.2⟩⟩ (by decide) dX5_put_51
    · subst f2
      have hc8 := q.2.1
      refine lv_iload S.1 S.2.1 dX5_put_31 (lv_at hl 0 rfl) ?_
      refine lv_iconst (v := (-1)) S.1 S.2.1 dX5_put_33 (by decide) ?_
      refine lv_icmp_eq (tgt := 52) S.1 S.2.1 dX5_put_34 (by decide) (fun c3 => ?_) (fun c3 => ?_)
      · refine lv_aload_n S.1 S.2.1 dX5_put_52 rfl (lv_at hl 1 rfl) ?_
        refine cv_gf (ci := 5) (C := RX5) (T := TX5) (N := 7) (v := .ref (E.2.1 10)) S K h 0 rfl hinX5 rfl rfl 2 (by decide) hf_23 rfl rfl dX5_put_53 ?_
        refine cv_gfN (ci := 4) (C := RX4) (T := TX4) (N := 5) (v := .ref (E.2.1 13)) S K h 10 rfl hinX4 rfl rfl 0 (by decide) (cv_nest_10 K) rfl rfl dX5_put_56 ?_
        refine cv_gfN (ci := 2) (C := RX2) (T := TX2) (N := 4) (v := .int (σ.2.2.1 13 3)) S K h 13 rfl hinX2 rfl rfl 3 (by decide) (cv_nest_0 K) rfl rfl dX5_put_59 ?_
        refine cv_rei (show (σ.2.2.1 13 3) = nI cnt from q.1) ?_
        refine lv_bipush (v := 8) S.1 S.2.1 dX5_put_62 (by decide) ?_
        refine lv_icmp_lt (tgt := 75) S.1 S.2.1 dX5_put_64 (by decide) (fun c4 => ?_) (fun c4 => ?_)
        · have hc7 : cnt ≤ 7 := by have := (nI_ltI (a := cnt) (b := 8) (by omega) (by decide)).mp c4; omega
          refine lv_aload_n S.1 S.2.1 dX5_put_75 rfl (lv_at hl 1 rfl) ?_
          refine cv_gf (ci := 5) (C := RX5) (T := TX5) (N := 7) (v := .ref (E.2.1 10)) S K h 0 rfl hinX5 rfl rfl 2 (by decide) hf_23 rfl rfl dX5_put_76 ?_
          refine cv_gfN (ci := 4) (C := RX4) (T := TX4) (N := 5) (v := .ref (E.2.1 13)) S K h 10 rfl hinX4 rfl rfl 0 (by decide) (cv_nest_10 K) rfl rfl dX5_put_79 ?_
          refine lv_lload_n S.1 S.2.1 dX5_put_82 rfl (lv_at hl 2 rfl) ?_
          refine lv_lload_n S.1 S.2.1 dX5_put_83 rfl (lv_at hl 3 rfl) ?_
          refine cv_callv (ci := 2) (C := RX2) (T := TX2) (N := 4) S K h hl.1 rfl rfl rfl (c_insert l E σ 0 (by decide) cnt N O V q hc7 nm xv) (cwV 2 S.2.2.2.2 gX5_put_X2_insert rfl rfl rfl (by decide +kernel) ⟨Nat.le_of_ble_eq_true rfl, Nat.le_of_ble_eq_true rfl⟩) rfl rfl (Nat.le_of_ble_eq_true rfl) (by decide) dX5_put_84 (fun σ18 H locs hin h => ?_)
          refine lv_iconst (v := 1) S.1 S.2.1 dX5_put_87 (by decide) ?_
          exact cvx_zret S hr (by decide) hlk hsz h ⟨ho1, hnm, hin.1, Or.inr ⟨rfl, f1, hc7, hin.2⟩⟩ (by decide) dX5_put_88
        · have hc9 : cnt = 8 := by have : ¬ cnt < 8 := fun z => c4 (nI_lt z (by decide)); omega
          exact cvx_throw (cls := "java/lang/UnsupportedOperationException") (ik := 105) (ic := 107) hst S X ht hlk hsz h hl.1 (by decide +kernel) (by decide +kernel) (by decide +kernel) (by decide +kernel) nt_UnsupportedOperationException_107 gt_UnsupportedOperationException_105_107 dX5_put_67 dX5_put_70 dX5_put_71 dX5_put_74 (by decide) (by decide) (by decide) (Or.inr (Or.inr ⟨rfl, ho1, hnm, f1, hc9, rfl⟩)) (by decide)
      · exact absurd rfl c3
  · exact cvx_throw (cls := "java/lang/IllegalArgumentException") (ik := 92) (ic := 94) hst S X ht hlk hsz h hl.1 (by decide +kernel) (by decide +kernel) (by decide +kernel) (by decide +kernel) nt_IllegalArgumentException_94 gt_IllegalArgumentException_92_94 dX5_put_10 dX5_put_13 dX5_put_14 dX5_put_17 (by decide) (by decide) (by decide) (Or.inr (Or.inl ⟨rfl, ho1, lg_eq0.mp c1, rfl⟩)) (by decide)

set_option maxHeartbeats 4000000 in
set_option maxRecDepth 100000 in
theorem c_remove (l : Launch) (hst : l.stackTraces = false) (E : cv_E) (σ : cv_S) (op : Int32) (hop : op = 0 ∨ op = 1) (ho : σ.2.2.1 0 5 = op) (cnt : Nat) (N : Nat → Int64) (O : Nat → Nat) (V : Nat → Nat → Int64) (hR : op = 1 → el_R σ 0 cnt N O V) (nm : Int64) : cv_Xi l E yX5_remove wsX5_remove 7 2 [.ref (E.2.1 0), .long nm] σ (fun r τ => op = 1 ∧ ((r = 0 ∧ fnN N cnt nm ∧ τ = σ) ∨ (r = 1 ∧ el_F 0 σ τ ∧ ∃ a, fnY N cnt nm a ∧ el_R τ 0 (cnt - 1) (li_del N a) (li_del O a) (li_del V a)))) (fun n τ => (n = "java/lang/IllegalStateException" ∧ op = 0 ∧ τ = σ)) := by
  intro sz
  refine cvx_in (ws := wsX5_remove) (cc := cX5_remove) (maxL := 4) (ret := (some .boolean)) (own := RX5) rfl (by decide) rfl (Nat.le_of_ble_eq_true rfl) ?_
  intro p e s m below meth c S K X ht hr hlk hsz h ls hl
  have hl : lv_has ls 4 [(0, .ref (E.2.1 0)), (1, .long nm)] := hl
  have hinX4 : ∀ w ∈ u_ws RX4 TX4 5, w ∈ wsX5_remove := by decide +kernel
  have hinX5 : ∀ w ∈ u_ws RX5 TX5 7, w ∈ wsX5_remove := by decide +kernel
  have hf_23 := S.2.2.2.2 (.fieldLink RX5 23 "CrashVault" "vault" "LCrashVault$Vault;") (by decide +kernel)
  refine lv_aload_n S.1 S.2.1 dX5_remove_0 rfl (lv_at hl 0 rfl) ?_
  refine cvx_callv (ci := 5) (C := RX5) (T := TX5) (N := 7) S K X h hl.1 rfl rfl rfl (c_requireOpen l hst E σ op hop ho) (cwV 0 S.2.2.2.2 gX5_remove_X5_requireOpen rfl rfl rfl (by decide +kernel) ⟨Nat.le_of_ble_eq_true rfl, Nat.le_of_ble_eq_true rfl⟩) rfl rfl (Nat.le_of_ble_eq_true rfl) (by decide) dX5_remove_1 (fun nm ce q9 σx H locs hpx h hc1 hc2 hc3 => cvx_out ht hlk hsz h (hpx) hc1 hc2 hc3 (by decide)) (fun σ19 H locs ⟨ho1, hs9⟩ h => ?_)
  rw [hs9] at h
  have q := hR ho1
  have hc8 := q.2.1
  refine lv_aload_n S.1 S.2.1 dX5_remove_4 rfl (lv_at hl 0 rfl) ?_
  refine cv_gf (ci := 5) (C := RX5) (T := TX5) (N := 7) (v := .ref (E.2.1 10)) S K h 0 rfl hinX5 rfl rfl 2 (by decide) hf_23 rfl rfl dX5_remove_5 ?_
  refine cv_gfN (ci := 4) (C := RX4) (T := TX4) (N := 5) (v := .ref (E.2.1 13)) S K h 10 rfl hinX4 rfl rfl 0 (by decide) (cv_nest_10 K) rfl rfl dX5_remove_8 ?_
  refine lv_lload_n S.1 S.2.1 dX5_remove_11 rfl (lv_at hl 1 rfl) ?_
  refine cv_calli (ci := 2) (C := RX2) (T := TX2) (N := 4) S K h hl.1 rfl rfl rfl (c_find l E σ 0 (by decide) cnt q.2.1 q.1 nm) (cwV 1 S.2.2.2.2 gX5_remove_X2_find rfl rfl rfl (by decide +kernel) ⟨Nat.le_of_ble_eq_true rfl, Nat.le_of_ble_eq_true rfl⟩) rfl rfl (Nat.le_of_ble_eq_true rfl) (by decide) dX5_remove_12 (fun rf σ20 H locs ⟨hfd, hs9⟩ h => ?_)
  rw [hs9] at h
  have hfn := fn_of q hfd
  refine lv_istore_n (lv' := [(3, .int rf), (0, .ref (E.2.1 0)), (1, .long nm)]) S.1 S.2.1 dX5_remove_15 rfl hl (by decide) rfl (fun ls hl => ?_)
  rcases hfn with ⟨i0, f1, f2⟩ | ⟨f1, f2⟩
  · subst f2
    refine lv_iload_n S.1 S.2.1 dX5_remove_16 rfl (lv_at hl 0 rfl) ?_
    refine lv_iconst (v := (-1)) S.1 S.2.1 dX5_remove_17 (by decide) ?_
    refine lv_icmp_ne (tgt := 23) S.1 S.2.1 dX5_remove_18 (by decide) (fun c3 => ?_) (fun c3 => ?_)
    · refine lv_aload_n S.1 S.2.1 dX5_remove_23 rfl (lv_at hl 1 rfl) ?_
      refine cv_gf (ci := 5) (C := RX5) (T := TX5) (N := 7) (v := .ref (E.2.1 10)) S K h 0 rfl hinX5 rfl rfl 2 (by decide) hf_23 rfl rfl dX5_remove_24 ?_
      refine cv_gfN (ci := 4) (C := RX4) (T := TX4) (N := 5) (v := .ref (E.2.1 13)) S K h 10 rfl hinX4 rfl rfl 0 (by decide) (cv_nest_10 K) rfl rfl dX5_remove_27 ?_
      refine lv_iload_n S.1 S.2.1 dX5_remove_30 rfl (lv_at hl 0 rfl) ?_
      refine cv_callv (ci := 2) (C := RX2) (T := TX2) (N := 4) S K h hl.1 rfl rfl rfl (c_drop l E σ 0 (by decide) cnt N O V q i0 f1.1) (cwV 1 S.2.2.2.2 gX5_remove_X2_drop rfl rfl rfl (by decide +kernel) ⟨Nat.le_of_ble_eq_true rfl, Nat.le_of_ble_eq_true rfl⟩) rfl rfl (Nat.le_of_ble_eq_true rfl) (by decide) dX5_remove_31 (fun σ21 H locs hdr h => ?_)
      refine lv_iconst (v := 1) S.1 S.2.1 dX5_remove_34 (by decide) ?_
      exact cvx_zret S hr (by decide) hlk hsz h ⟨ho1, Or.inr ⟨rfl, hdr.1, i0, f1, hdr.2⟩⟩ (by decide) dX5_remove_35
    · exact absurd c3 (nI_neg1 i0 (by have := f1.1; omega))
  · subst f2
    refine lv_iload_n S.1 S.2.1 dX5_remove_16 rfl (lv_at hl 0 rfl) ?_
    refine lv_iconst (v := (-1)) S.1 S.2.1 dX5_remove_17 (by decide) ?_
    refine lv_icmp_ne (tgt := 23) S.1 S.2.1 dX5_remove_18 (by decide) (fun c3 => ?_) (fun c3 => ?_)
    · exact absurd rfl c3
    · refine lv_iconst (v := 0) S.1 S.2.1 dX5_remove_21 (by decide) ?_
      exact cvx_zret S hr (by decide) hlk hsz h ⟨ho1, Or.inl ⟨rfl, f1, rfl⟩⟩ (by decide) dX5_remove_22

set_option maxHeartbeats 4000000 in
set_option maxRecDepth 100000 in
theorem c_value (l : Launch) (hst : l.stackTraces = false) (E : cv_E) (σ : cv_S) (op : Int32) (hop : op = 0 ∨ op = 1) (ho : σ.2.2.1 0 5 = op) (cnt : Nat) (N : Nat → Int64) (O : Nat → Nat) (V : Nat → Nat → Int64) (hR : op = 1 → el_R σ 0 cnt N O V) (nm : Int64) (bk : Int32) : cv_Xl l E yX5_value wsX5_value 7 2 [.ref (E.2.1 0), .long nm, .int bk] σ (fun r τ => op = 1 ∧ (∃ a k, fnY N cnt nm a ∧ k ≤ O a ∧ bk = nI k ∧ r = V a k) ∧ τ = σ) (fun n τ => (n = "java/lang/IllegalStateException" ∧ op = 0 ∧ τ = σ) ∨ (n = "java/lang/IndexOutOfBoundsException" ∧ op = 1 ∧ (bk < 0 ∨ 2 < bk) ∧ τ = σ) ∨ (n = "java/util/NoSuchElementException" ∧ op = 1 ∧ ¬ bk < 0 ∧ ¬ 2 < bk ∧ (fnN N cnt nm ∨ ∃ a, fnY N cnt nm a ∧ nI (O a) < bk) ∧ τ = σ)) := by
  intro sz
  refine cvx_in (ws := wsX5_value) (cc := cX5_value) (maxL := 5) (ret := (some .long)) (own := RX5) rfl (by decide) rfl (Nat.le_of_ble_eq_true rfl) ?_
  intro p e s m below meth c S K X ht hr hlk hsz h ls hl
  have hl : lv_has ls 5 [(0, .ref (E.2.1 0)), (1, .long nm), (3, .int bk)] := hl
  have hinX2 : ∀ w ∈ u_ws RX2 TX2 4, w ∈ wsX5_value := by decide +kernel
  have hinX4 : ∀ w ∈ u_ws RX4 TX4 5, w ∈ wsX5_value := by decide +kernel
  have hinX5 : ∀ w ∈ u_ws RX5 TX5 7, w ∈ wsX5_value := by decide +kernel
  have hf_23 := S.2.2.2.2 (.fieldLink RX5 23 "CrashVault" "vault" "LCrashVault$Vault;") (by decide +kernel)
  refine lv_aload_n S.1 S.2.1 dX5_value_0 rfl (lv_at hl 0 rfl) ?_
  refine cvx_callv (ci := 5) (C := RX5) (T := TX5) (N := 7) S K X h hl.1 rfl rfl rfl (c_requireOpen l hst E σ op hop ho) (cwV 0 S.2.2.2.2 gX5_value_X5_requireOpen rfl rfl rfl (by decide +kernel) ⟨Nat.le_of_ble_eq_true rfl, Nat.le_of_ble_eq_true rfl⟩) rfl rfl (Nat.le_of_ble_eq_true rfl) (by decide) dX5_value_1 (fun nm ce q9 σx H locs hpx h hc1 hc2 hc3 => cvx_out ht hlk hsz h (Or.inl hpx) hc1 hc2 hc3 (by decide)) (fun σ22 H locs ⟨ho1, hs9⟩ h => ?_)
  rw [hs9] at h
  have q := hR ho1
  have hc8 := q.2.1
  refine lv_iload_n S.1 S.2.1 dX5_value_4 rfl (lv_at hl 2 rfl) ?_
  refine lv_if_lt (tgt := 13) S.1 S.2.1 dX5_value_5 (by decide) (fun c1 => ?_) (fun c1 => ?_)
  · exact cvx_throw (cls := "java/lang/IndexOutOfBoundsException") (ik := 115) (ic := 117) hst S X ht hlk hsz h hl.1 (by decide +kernel) (by decide +kernel) (by decide +kernel) (by decide +kernel) nt_IndexOutOfBoundsException_117 gt_IndexOutOfBoundsException_115_117 dX5_value_13 dX5_value_16 dX5_value_17 dX5_value_20 (by decide) (by decide) (by decide) (Or.inr (Or.inl ⟨rfl, ho1, Or.inl c1, rfl⟩)) (by decide)
  · refine lv_iload_n S.1 S.2.1 dX5_value_8 rfl (lv_at hl 2 rfl) ?_
    refine lv_iconst (v := 2) S.1 S.2.1 dX5_value_9 (by decide) ?_
    refine lv_icmp_le (tgt := 21) S.1 S.2.1 dX5_value_10 (by decide) (fun c2 => ?_) (fun c2 => ?_)
    · obtain ⟨k, hk, rfl⟩ := nI_of c1
      have hk2 : k ≤ 2 := (nI_leI hk (by decide)).mp c2
      refine lv_aload_n S.1 S.2.1 dX5_value_21 rfl (lv_at hl 0 rfl) ?_
      refine cv_gf (ci := 5) (C := RX5) (T := TX5) (N := 7) (v := .ref (E.2.1 10)) S K h 0 rfl hinX5 rfl rfl 2 (by decide) hf_23 rfl rfl dX5_value_22 ?_
      refine cv_gfN (ci := 4) (C := RX4) (T := TX4) (N := 5) (v := .ref (E.2.1 13)) S K h 10 rfl hinX4 rfl rfl 0 (by decide) (cv_nest_10 K) rfl rfl dX5_value_25 ?_
      refine lv_lload_n S.1 S.2.1 dX5_value_28 rfl (lv_at hl 1 rfl) ?_
      refine cv_calli (ci := 2) (C := RX2) (T := TX2) (N := 4) S K h hl.1 rfl rfl rfl (c_find l E σ 0 (by decide) cnt q.2.1 q.1 nm) (cwV 1 S.2.2.2.2 gX5_value_X2_find rfl rfl rfl (by decide +kernel) ⟨Nat.le_of_ble_eq_true rfl, Nat.le_of_ble_eq_true rfl⟩) rfl rfl (Nat.le_of_ble_eq_true rfl) (by decide) dX5_value_29 (fun rf σ23 H locs ⟨hfd, hs9⟩ h => ?_)
      rw [hs9] at h
      have hfn := fn_of q hfd
      refine lv_istore (lv' := [(4, .int rf), (0, .ref (E.2.1 0)), (1, .long nm), (3, .int (nI k))]) S.1 S.2.1 dX5_value_32 hl (by decide) rfl (fun ls hl => ?_)
      rcases hfn with ⟨i0, f1, f2⟩ | ⟨f1, f2⟩
      · subst f2
        have hi0 := f1.1
        have hO := (q.2.2 i0 hi0).2.2.1
        refine lv_iload S.1 S.2.1 dX5_value_34 (lv_at hl 0 rfl) ?_
        refine lv_iconst (v := (-1)) S.1 S.2.1 dX5_value_36 (by decide) ?_
        refine lv_icmp_eq (tgt := 57) S.1 S.2.1 dX5_value_37 (by decide) (fun c3 => ?_) (fun c3 => ?_)
        · exact absurd c3 (nI_neg1 i0 (by omega))
        · refine lv_iload_n S.1 S.2.1 dX5_value_40 rfl (lv_at hl 3 rfl) ?_
          refine lv_aload_n S.1 S.2.1 dX5_value_41 rfl (lv_at hl 1 rfl) ?_
          refine cv_gf (ci := 5) (C := RX5) (T := TX5) (N := 7) (v := .ref (E.2.1 10)) S K h 0 rfl hinX5 rfl rfl 2 (by decide) hf_23 rfl rfl dX5_value_42 ?_
          refine cv_gfN (ci := 4) (C := RX4) (T := TX4) (N := 5) (v := .ref (E.2.1 13)) S K h 10 rfl hinX4 rfl rfl 0 (by decide) (cv_nest_10 K) rfl rfl dX5_value_45 ?_
          refine cv_gfN (ci := 2) (C := RX2) (T := TX2) (N := 4) (v := .ref (E.2.1 19)) S K h 13 rfl hinX2 rfl rfl 1 (by decide) (cv_nest_2 K) rfl rfl dX5_value_48 ?_
          refine lv_iload S.1 S.2.1 dX5_value_51 (lv_at hl 0 rfl) ?_
          refine cv_iald S K h 19 rfl (n := 8) rfl i0 rfl (by omega) dX5_value_53 ?_
          refine cv_rei (show (σ.1 19 i0) = nI (O i0) from (q.2.2 i0 hi0).2.1) ?_
          refine lv_icmp_le (tgt := 65) S.1 S.2.1 dX5_value_54 (by decide) (fun c4 => ?_) (fun c4 => ?_)
          · have hkO : k ≤ O i0 := (nI_leI hk (by omega)).mp c4
            refine lv_aload_n S.1 S.2.1 dX5_value_65 rfl (lv_at hl 1 rfl) ?_
            refine cv_gf (ci := 5) (C := RX5) (T := TX5) (N := 7) (v := .ref (E.2.1 10)) S K h 0 rfl hinX5 rfl rfl 2 (by decide) hf_23 rfl rfl dX5_value_66 ?_
            refine cv_gfN (ci := 4) (C := RX4) (T := TX4) (N := 5) (v := .ref (E.2.1 13)) S K h 10 rfl hinX4 rfl rfl 0 (by decide) (cv_nest_10 K) rfl rfl dX5_value_69 ?_
            refine cv_gfN (ci := 2) (C := RX2) (T := TX2) (N := 4) (v := .ref (E.2.1 22)) S K h 13 rfl hinX2 rfl rfl 2 (by decide) (cv_nest_3 K) rfl rfl dX5_value_72 ?_
            refine lv_iload S.1 S.2.1 dX5_value_75 (lv_at hl 0 rfl) ?_
            refine cv_aald S K h 0 (by decide) i0 rfl (by omega) dX5_value_77 ?_
            refine lv_iload_n S.1 S.2.1 dX5_value_78 rfl (lv_at hl 3 rfl) ?_
            refine cv_lald S K h (8 * 0 + i0 + 25) (cv_kdR 0 (by decide) i0 (by omega)).1 (cv_kdR 0 (by decide) i0 (by omega)).2 k rfl (by omega) dX5_value_79 ?_
            refine cv_rel (show (σ.2.1 (8 * 0 + i0 + 25) k) = V i0 k from (q.2.2 i0 hi0).2.2.2 k hkO) ?_
            exact cvx_lret S hr hlk hsz h ⟨ho1, ⟨i0, k, f1, hkO, rfl, rfl⟩, rfl⟩ (by decide) dX5_value_80
          · exact cvx_throw (cls := "java/util/NoSuchElementException") (ik := 75) (ic := 77) hst S X ht hlk hsz h hl.1 (by decide +kernel) (by decide +kernel) (by decide +kernel) (by decide +kernel) nt_NoSuchElementException_77 gt_NoSuchElementException_75_77 dX5_value_57 dX5_value_60 dX5_value_61 dX5_value_64 (by decide) (by decide) (by decide) (Or.inr (Or.inr ⟨rfl, ho1, c1, Int32.not_lt.mpr c2, Or.inr ⟨i0, f1, Int32.not_le.mp c4⟩, rfl⟩)) (by decide)
      · subst f2
        refine lv_iload S.1 S.2.1 dX5_value_34 (lv_at hl 0 rfl) ?_
        refine lv_iconst (v := (-1)) S.1 S.2.1 dX5_value_36 (by decide) ?_
        refine lv_icmp_eq (tgt := 57) S.1 S.2.1 dX5_value_37 (by decide) (fun c3 => ?_) (fun c3 => ?_)
        · exact cvx_throw (cls := "java/util/NoSuchElementException") (ik := 75) (ic := 77) hst S X ht hlk hsz h hl.1 (by decide +kernel) (by decide +kernel) (by decide +kernel) (by decide +kernel) nt_NoSuchElementException_77 gt_NoSuchElementException_75_77 dX5_value_57 dX5_value_60 dX5_value_61 dX5_value_64 (by decide) (by decide) (by decide) (Or.inr (Or.inr ⟨rfl, ho1, c1, Int32.not_lt.mpr c2, Or.inl f1, rfl⟩)) (by decide)
        · exact absurd rfl c3
    · exact cvx_throw (cls := "java/lang/IndexOutOfBoundsException") (ik := 115) (ic := 117) hst S X ht hlk hsz h hl.1 (by decide +kernel) (by decide +kernel) (by decide +kernel) (by decide +kernel) nt_IndexOutOfBoundsException_117 gt_IndexOutOfBoundsException_115_117 dX5_value_13 dX5_value_16 dX5_value_17 dX5_value_20 (by decide) (by decide) (by decide) (Or.inr (Or.inl ⟨rfl, ho1, Or.inr (Int32.not_le.mp c2), rfl⟩)) (by decide)
