/-! 53: the law's loop -/
theorem law_last : ∀ L, L < 6 → nI L - 6 < 0 := by decide
theorem law_go {L i : Nat} (hL : L ≤ 3072) (hi : 6 * i ≤ L + 6) (h : ¬ nI (6 * i) > nI L - 6) : 6 * i + 6 ≤ L := by
  rcases Nat.lt_or_ge L (6 * i + 6) with q | q
  · exfalso
    apply h
    show nI L - 6 < nI (6 * i)
    rcases Nat.lt_or_ge L 6 with z | z
    · have h1 := law_last L z
      have h2 : (0 : Int32) ≤ nI (6 * i) := nI_le (a := 0) (Nat.zero_le _) (by omega)
      exact Int32.lt_of_lt_of_le h1 h2
    · have h1 : nI L - 6 = nI (L - 6) := by
        have h2 := nI_add (L - 6) 6
        rw [Nat.sub_add_cancel z] at h2
        rw [← h2]
        show nI (L - 6) + 6 - 6 = nI (L - 6)
        exact Int32.add_sub_cancel _ _
      rw [h1]
      exact nI_lt (by omega) (by omega)
  · exact q
set_option maxHeartbeats 4000000 in
set_option maxRecDepth 100000 in
/-- the law's loop -/
theorem law_loop {p : Program} {l : Launch} {e : Env} {s : State} {m : MethodId} {below : List Frame} {meth : Method} {c : Code} {E : cv_E} {b L : Nat} {xs : Nat → Int32} (hst : l.stackTraces = false) (S : CallFix p m c cL_law 8 s #[Value.ref b] wsL_law RL) (K : cv_K E s) (X : cv_KX (cv_A E s.heap.size) s s.heap) (hX : va_X b L xs s s.heap) (hbl : b < s.heap.size) (hAd : ∀ k, k < 60 → s.heap.size ≤ E.2.1 k) (hL : L ≤ 3072) (hr : meth.sig.returnType = ret) (hlocks : meth.locks = false) : ∀ (n i : Nat), L < 6 * i + 6 * n + 6 → 6 * i ≤ L + 6 → ∀ (σ : cv_S) (H : Heap) (locs : List Loc) (ls : Array Slot), Rel σ → cv_H E σ s H locs → lv_has ls 8 [(0, .ref b), (1, .ref (E.2.1 0)), (2, .ref (E.2.1 49)), (3, .ref (E.2.1 59)), (4, .int (nI (6 * i)))] → W p l e room_1 s m #[Value.ref b] below meth c H locs (60 + 2 * i) (2124 + 12 * i) (lw_Z below #[Value.ref b] s) (F0 m 23 ls []) := by
  have hbA : ¬ cv_A E s.heap.size b := fun z => by
    rcases z with ⟨k, hk, z⟩ | z
    · have := hAd k hk
      omega
    · omega
  intro n
  induction n with
  | zero =>
    intro i hn hi σ H locs ls hR h hl
    refine lv_iload S.1 S.2.1 dL_law_23 (lv_at hl 4 rfl) ?_
    refine lv_aload_n S.1 S.2.1 dL_law_25 rfl (lv_at hl 0 rfl) ?_
    refine va_slen S.1 S.2.1 hX hbl hbA h.2 dL_law_26 ?_
    refine lv_bipush (v := 6) S.1 S.2.1 dL_law_27 (by decide) ?_
    refine lv_isub S.1 S.2.1 dL_law_29 ?_
    refine lv_icmp_gt (tgt := 1245) S.1 S.2.1 dL_law_30 (by decide) (fun c1 => ?_) (fun c1 => ?_)
    · refine lv_iconst (v := 1) S.1 S.2.1 dL_law_1245 (by decide) ?_
      refine va_forget (fun q hq => ?_) ?_
      · rcases h.2.2.2 q hq with ⟨k, hk, z⟩ | z
        · rw [← z]; exact hAd k hk
        · exact z
      refine W.widen (k := 601024) (n := 7293034) (by omega) (by omega) ?_
      exact lw_ret S.1 S.2.1 hr hlocks dL_law_1246
    · have := law_go hL hi c1
      omega
  | succ n ih =>
    intro i hn hi σ H locs ls hR h hl
    refine lv_iload S.1 S.2.1 dL_law_23 (lv_at hl 4 rfl) ?_
    refine lv_aload_n S.1 S.2.1 dL_law_25 rfl (lv_at hl 0 rfl) ?_
    refine va_slen S.1 S.2.1 hX hbl hbA h.2 dL_law_26 ?_
    refine lv_bipush (v := 6) S.1 S.2.1 dL_law_27 (by decide) ?_
    refine lv_isub S.1 S.2.1 dL_law_29 ?_
    refine lv_icmp_gt (tgt := 1245) S.1 S.2.1 dL_law_30 (by decide) (fun c1 => ?_) (fun c1 => ?_)
    · refine lv_iconst (v := 1) S.1 S.2.1 dL_law_1245 (by decide) ?_
      refine va_forget (fun q hq => ?_) ?_
      · rcases h.2.2.2 q hq with ⟨k, hk, z⟩ | z
        · rw [← z]; exact hAd k hk
        · exact z
      refine W.widen (k := 601024) (n := 7293034) (by omega) (by omega) ?_
      exact lw_ret S.1 S.2.1 hr hlocks dL_law_1246
    · have hi6 := law_go hL hi c1
      have hcs : 60 + 2 * i + 2 ≤ room_1.cells ∧ 2124 + 12 * i + 6 * 2 ≤ room_1.slots := ⟨by show _ ≤ 601024; omega, by show _ ≤ 7293034; omega⟩
      have nx : ∀ (σ' : cv_S) (H' : Heap) (locs' : List Loc) (ls' : Array Slot), Rel σ' → cv_H E σ' s H' locs' → lv_has ls' 8 [(0, .ref b), (1, .ref (E.2.1 0)), (2, .ref (E.2.1 49)), (3, .ref (E.2.1 59)), (4, .int (nI (6 * i)))] → W p l e room_1 s m #[Value.ref b] below meth c H' locs' (60 + 2 * i + 2) (2124 + 12 * i + 6 * 2) (lw_Z below #[Value.ref b] s) (F0 m 1239 ls' []) := by
        intro σ' H locs ls hR h hl
        obtain ⟨z, ez⟩ : ∃ y : Int32, y = nI (6 * i) + 6 := ⟨_, rfl⟩
        refine lv_iinc (v := z) (lv' := [(4, .int z), (0, .ref b), (1, .ref (E.2.1 0)), (2, .ref (E.2.1 49)), (3, .ref (E.2.1 59))]) S.1 S.2.1 dL_law_1239 hl (k := 4) rfl (by rw [ez]; rfl) (by decide) rfl (fun ls hl => ?_)
        refine lv_goto (tgt := 23) S.1 S.2.1 dL_law_1242 (by decide) ?_
        refine W.widen (k := 60 + 2 * (i + 1)) (n := 2124 + 12 * (i + 1)) (by omega) (by omega) ?_
        have e6 : z = nI (6 * (i + 1)) := by rw [ez]; exact nI_add (6 * i) 6
        subst e6
        exact ih (i + 1) (by omega) (by omega) σ' H locs ls hR h (lv_sub hl [1, 2, 3, 4, 0] rfl)
      refine lv_aload_n S.1 S.2.1 dL_law_33 rfl (lv_at hl 0 rfl) ?_
      refine lv_iload S.1 S.2.1 dL_law_34 (lv_at hl 4 rfl) ?_
      refine cv_sld (j := 6 * i) S h hX hbl hbA hL (by omega) dL_law_36 ?_
      refine lv_bipush (v := 15) S.1 S.2.1 dL_law_37 (by decide) ?_
      refine lv_iand S.1 S.2.1 dL_law_39 ?_
      obtain ⟨j, hj, ej⟩ := and15 (xs (6 * i))
      refine cv_rei ej ?_
      rcases (show j = 0 ∨ j = 1 ∨ j = 2 ∨ j = 3 ∨ j = 4 ∨ j = 5 ∨ j = 6 ∨ j = 7 ∨ j = 8 ∨ j = 9 ∨ j = 10 ∨ j = 11 ∨ j = 12 ∨ j = 13 ∨ j = 14 ∨ j = 15 by omega) with rfl | rfl | rfl | rfl | rfl | rfl | rfl | rfl | rfl | rfl | rfl | rfl | rfl | rfl | rfl | rfl
      · refine lv_tableIn (tgt := 120) (off := 80) S.1 S.2.1 dL_law_40 (by decide) (by decide) (by decide) (by decide) ?_
        exact law_make hst S K X hX hbl hbA hL i hi6 hcs hR h hl nx
      · refine lv_tableIn (tgt := 251) (off := 211) S.1 S.2.1 dL_law_40 (by decide) (by decide) (by decide) (by decide) ?_
        exact law_open hst S K X hX hbl hbA hL i hi6 hcs hR h hl nx
      · refine lv_tableIn (tgt := 339) (off := 299) S.1 S.2.1 dL_law_40 (by decide) (by decide) (by decide) (by decide) ?_
        exact law_shut hst S K X hX hbl hbA hL i hi6 hcs hR h hl nx
      · refine lv_tableIn (tgt := 352) (off := 312) S.1 S.2.1 dL_law_40 (by decide) (by decide) (by decide) (by decide) ?_
        exact law_isOpen hst S K X hX hbl hbA hL i hi6 hcs hR h hl nx
      · refine lv_tableIn (tgt := 365) (off := 325) S.1 S.2.1 dL_law_40 (by decide) (by decide) (by decide) (by decide) ?_
        exact law_length hst S K X hX hbl hbA hL i hi6 hcs hR h hl nx
      · refine lv_tableIn (tgt := 409) (off := 369) S.1 S.2.1 dL_law_40 (by decide) (by decide) (by decide) (by decide) ?_
        exact law_save hst S K X hX hbl hbA hL i hi6 hcs hR h hl nx
      · refine lv_tableIn (tgt := 472) (off := 432) S.1 S.2.1 dL_law_40 (by decide) (by decide) (by decide) (by decide) ?_
        exact law_renew hst S K X hX hbl hbA hL i hi6 hcs hR h hl nx
      · refine lv_tableIn (tgt := 552) (off := 512) S.1 S.2.1 dL_law_40 (by decide) (by decide) (by decide) (by decide) ?_
        exact law_serial hst S K X hX hbl hbA hL i hi6 hcs hR h hl nx
      · refine lv_tableIn (tgt := 596) (off := 556) S.1 S.2.1 dL_law_40 (by decide) (by decide) (by decide) (by decide) ?_
        exact law_put hst S K X hX hbl hbA hL i hi6 hcs hR h hl nx
      · refine lv_tableIn (tgt := 735) (off := 695) S.1 S.2.1 dL_law_40 (by decide) (by decide) (by decide) (by decide) ?_
        exact law_remove hst S K X hX hbl hbA hL i hi6 hcs hR h hl nx
      · refine lv_tableIn (tgt := 830) (off := 790) S.1 S.2.1 dL_law_40 (by decide) (by decide) (by decide) (by decide) ?_
        exact law_entries hst S K X hX hbl hbA hL i hi6 hcs hR h hl nx
      · refine lv_tableIn (tgt := 874) (off := 834) S.1 S.2.1 dL_law_40 (by decide) (by decide) (by decide) (by decide) ?_
        exact law_name hst S K X hX hbl hbA hL i hi6 hcs hR h hl nx
      · refine lv_tableIn (tgt := 929) (off := 889) S.1 S.2.1 dL_law_40 (by decide) (by decide) (by decide) (by decide) ?_
        exact law_value hst S K X hX hbl hbA hL i hi6 hcs hR h hl nx
      · refine lv_tableIn (tgt := 1028) (off := 988) S.1 S.2.1 dL_law_40 (by decide) (by decide) (by decide) (by decide) ?_
        exact law_disk hst S K X hX hbl hbA hL i hi6 hcs hR h hl nx
      · refine lv_tableIn (tgt := 1084) (off := 1044) S.1 S.2.1 dL_law_40 (by decide) (by decide) (by decide) (by decide) ?_
        exact law_spoil hst S K X hX hbl hbA hL i hi6 hcs hR h hl nx
      · refine lv_tableIn (tgt := 1132) (off := 1092) S.1 S.2.1 dL_law_40 (by decide) (by decide) (by decide) (by decide) ?_
        exact law_isGood hst S K X hX hbl hbA hL i hi6 hcs hR h hl nx
