/-! 38: the reference: saved, save -/
/-- a disk with m bytes of F from a on -/
def sdv (dv : Nat → Nat) (a : Nat) (F : List Nat) (m : Nat) : Nat → Nat := fun j => if a ≤ j ∧ j < a + m then F.getD (j - a) 0 else dv j
/-- where a save goes -/
def svA (dv : Nat → Nat) (kn : Int64) (a : Nat) : Prop := ∃ r, nwR r dv (fun q => dv (300 + q)) kn ∧ a = if r = 0 then 300 else 0
/-- nothing else has changed -/
def sv_F (σ τ : cv_S) : Prop := (∀ k, k ∉ [50, 54, 55, 56, 57, 58] → τ.1 k = σ.1 k) ∧ τ.2.1 = σ.2.1 ∧ (∀ k i, (k ≠ 49 ∨ (i ≠ 17 ∧ i ≠ 2 ∧ i ≠ 7)) → τ.2.2.1 k i = σ.2.2.1 k i) ∧ (∀ k i, (k ≠ 49 ∨ i ≠ 4) → τ.2.2.2 k i = σ.2.2.2 k i)
theorem sv_em {σ τ : cv_S} {cnt : Nat} {N : Nat → Int64} {O : Nat → Nat} {V : Nat → Nat → Int64} (h : sv_F σ τ) (hR : em_R σ cnt N O V) : em_R τ cnt N O V := by
  obtain ⟨q1, q2, q3⟩ := hR
  refine ⟨by rw [h.2.2.1 49 8 (Or.inr (by decide))]; exact q1, q2, fun i hi => ?_⟩
  rw [h.2.1, h.1 52 (by decide)]
  exact q3 i hi
/-- what saved does, over the reference: q the power -/
def svM (σ : cv_S) (dv : Nat → Nat) (pw kn : Int64) (sa sr : Int32) (rd cnt : Nat) (N : Nat → Int64) (O : Nat → Nat) (V : Nat → Nat → Int64) (q : Nat) (r : Int32) (τ : cv_S) : Prop :=
  sv_F σ τ ∧ (∃ a, svA dv kn a ∧ by_R (τ.1 50) (sdv dv a (fl pw sa (sr + 1) rd (co_l N O V cnt cnt)) (min q (29 + co_sz O cnt))) 600) ∧ ((29 + co_sz O cnt ≤ q ∧ r = 1 ∧ τ.2.2.1 49 2 = 1 ∧ τ.2.2.1 49 7 = sr + 1 ∧ τ.2.2.2 49 4 = pw) ∨ (q < 29 + co_sz O cnt ∧ r = 0 ∧ τ.2.2.1 49 2 = 0))

set_option maxHeartbeats 4000000 in
set_option maxRecDepth 100000 in
/-- the vault is saved with the power q -/
theorem m_saved (l : Launch) (E : cv_E) (σ : cv_S) (dv : Nat → Nat) (hdv : by_R (σ.1 50) dv 600) (pw kn : Int64) (sa sr : Int32) (rd cnt : Nat) (N : Nat → Int64) (O : Nat → Nat) (V : Nat → Nat → Int64) (hrd40 : rd ≤ 40) (hpw : σ.2.2.2 49 3 = pw) (hkn : σ.2.2.2 49 4 = kn) (hsa : σ.2.2.1 49 5 = sa) (hrd : σ.2.2.1 49 6 = nI rd) (hsr : σ.2.2.1 49 7 = sr) (hR : em_R σ cnt N O V) (q : Nat) (hq : q < 2 ^ 31) : cv_Mi l E yX6_saved wsX6_saved (cv_R 9) [.ref (E.2.1 49), .int (nI q)] σ (fun r τ => svM σ dv pw kn sa sr rd cnt N O V q r τ) := by
  intro sz
  refine cv_in (ws := wsX6_saved) (cc := cX6_saved) (maxL := 4) (ret := (some .boolean)) (own := RX6) rfl (by decide) rfl (Nat.le_of_ble_eq_true rfl) ?_
  intro p e s m below meth c S K hr hlk hsz h ls hl
  have hl : lv_has ls 4 [(0, .ref (E.2.1 49)), (1, .int (nI q))] := hl
  have hinX6 : ∀ w ∈ u_ws RX6 TX6 18, w ∈ wsX6_saved := by decide +kernel
  have hf_134 := S.2.2.2.2 (.fieldLink RX6 134 "CrashVaultModel" "known" "J") (by decide +kernel)
  have hf_141 := S.2.2.2.2 (.fieldLink RX6 141 "CrashVaultModel" "serial" "I") (by decide +kernel)
  have hf_147 := S.2.2.2.2 (.fieldLink RX6 147 "CrashVaultModel" "open" "Z") (by decide +kernel)
  have hf_35 := S.2.2.2.2 (.fieldLink RX6 35 "CrashVaultModel" "file" "[I") (by decide +kernel)
  have hf_64 := S.2.2.2.2 (.fieldLink RX6 64 "CrashVaultModel" "size" "I") (by decide +kernel)
  have hf_7 := S.2.2.2.2 (.fieldLink RX6 7 "CrashVaultModel" "disk" "[I") (by decide +kernel)
  have hf_85 := S.2.2.2.2 (.fieldLink RX6 85 "CrashVaultModel" "password" "J") (by decide +kernel)
  have hFl : (fl pw sa (sr + 1) rd (co_l N O V cnt cnt)).length = 29 + co_sz O cnt := by rw [fl_len, co_l_len]
  have hn8 : co_sz O cnt ≤ 265 := by
    have h1 := co_sz_le (n := cnt) (fun i hi => (hR.2.2 i hi).2.2.1)
    have h2 := hR.2.1
    omega
  refine lv_aload_n S.1 S.2.1 dX6_saved_0 rfl (lv_at hl 0 rfl) ?_
  refine lv_aload_n S.1 S.2.1 dX6_saved_1 rfl (lv_at hl 0 rfl) ?_
  refine cv_gf (ci := 6) (C := RX6) (T := TX6) (N := 18) (v := .long (σ.2.2.2 49 4)) S K h 49 rfl hinX6 rfl rfl 4 (by decide) hf_134 rfl rfl dX6_saved_2 ?_
  refine cv_rel (show (σ.2.2.2 49 4) = kn from hkn) ?_
  refine cv_calli (ci := 6) (C := RX6) (T := TX6) (N := 18) S K h hl.1 rfl rfl rfl (m_newest l E σ dv (fun q => dv (300 + q)) (fun j hj => hdv j (by omega)) (fun j hj => hdv (300 + j) (by omega)) kn) (cwV 1 S.2.2.2.2 gX6_saved_X6_newest rfl rfl rfl (by decide +kernel) ⟨Nat.le_of_ble_eq_true rfl, Nat.le_of_ble_eq_true rfl⟩) rfl rfl (Nat.le_of_ble_eq_true rfl) ⟨Nat.zero_le _, Nat.zero_le _⟩ dX6_saved_5 (fun rn σ95 H locs hnw h => ?_)
  have key : ∀ (pl : Nat) (H : Heap) (locs : List Loc) (ls : Array Slot), pl ≤ 300 → svA dv kn pl → cv_H E σ95 s H locs → lv_has ls 4 [(2, .int (nI pl)), (0, .ref (E.2.1 49)), (1, .int (nI q))] → W p l e (cv_R 9) s m ([.ref (E.2.1 49), .int (nI q)] : List Value).toArray below meth c H locs 0 0 (MQ below (va_Qi (fun r τ => svM σ dv pw kn sa sr rd cnt N O V q r τ) (cv_B E) (cv_A E sz)) ([.ref (E.2.1 49), .int (nI q)] : List Value).toArray s 0 0 (cv_A E sz)) (F0 m 19 ls []) := by
    intro pl H locs ls ha hsv h hl
    have hR1 : em_R σ95 cnt N O V := em_F (mw_fr hnw.1) (by decide) hR
    refine lv_aload_n S.1 S.2.1 dX6_saved_19 rfl (lv_at hl 1 rfl) ?_
    refine lv_aload_n S.1 S.2.1 dX6_saved_20 rfl (lv_at hl 1 rfl) ?_
    refine cv_gf (ci := 6) (C := RX6) (T := TX6) (N := 18) (v := .int (σ95.2.2.1 49 7)) S K h 49 rfl hinX6 rfl rfl 7 (by decide) hf_141 rfl rfl dX6_saved_21 ?_
    refine cv_rei (show (σ95.2.2.1 49 7) = sr from by rw [hnw.1.2]; exact hsr) ?_
    refine lv_iconst (v := 1) S.1 S.2.1 dX6_saved_24 (by decide) ?_
    refine lv_iadd S.1 S.2.1 dX6_saved_25 ?_
    refine cv_callv (ci := 6) (C := RX6) (T := TX6) (N := 18) S K h hl.1 rfl rfl rfl (m_write l E σ95 cnt N O V hR1 pw sa (sr + 1) rd hrd40 (by rw [hnw.1.2]; exact hpw) (by rw [hnw.1.2]; exact hsa) (by rw [hnw.1.2]; exact hrd)) (cwV 1 S.2.2.2.2 gX6_saved_X6_write rfl rfl rfl (by decide +kernel) ⟨Nat.le_of_ble_eq_true rfl, Nat.le_of_ble_eq_true rfl⟩) rfl rfl (Nat.le_of_ble_eq_true rfl) ⟨Nat.zero_le _, Nat.zero_le _⟩ dX6_saved_26 (fun σ96 H locs hw h => ?_)
    obtain ⟨w1, w2, w3⟩ := hw
    rw [hFl] at w3
    have hf2 : ∀ k, k ∉ [54, 55, 56, 57, 58] → σ96.1 k = σ.1 k := fun k hk => (w1.1 k hk).trans (hnw.1.1 k hk)
    have hF2 : ∀ k i, (k ≠ 49 ∨ i ≠ 17) → σ96.2.2.1 k i = σ.2.2.1 k i := fun k i hk => (w1.2.2.1 k i hk).trans (by rw [hnw.1.2])
    have hG2 : σ96.2.1 = σ.2.1 ∧ σ96.2.2.2 = σ.2.2.2 := ⟨w1.2.1.trans (by rw [hnw.1.2]), w1.2.2.2.trans (by rw [hnw.1.2])⟩
    refine lv_iconst (v := 0) S.1 S.2.1 dX6_saved_29 (by decide) ?_
    refine lv_istore_n (lv' := [(3, .int 0), (2, .int (nI pl)), (0, .ref (E.2.1 49)), (1, .int (nI q))]) S.1 S.2.1 dX6_saved_30 rfl hl (by decide) rfl (fun ls hl => ?_)
    have end64 : ∀ (τ' : cv_S) (H : Heap) (locs : List Loc) (ls : Array Slot), (∀ k, k ≠ 50 → τ'.1 k = σ96.1 k) ∧ τ'.2 = σ96.2 ∧ by_R (τ'.1 50) (sdv dv pl (fl pw sa (sr + 1) rd (co_l N O V cnt cnt)) (min q (29 + co_sz O cnt))) 600 → cv_H E τ' s H locs → lv_has ls 4 [(0, .ref (E.2.1 49)), (1, .int (nI q))] → W p l e (cv_R 9) s m ([.ref (E.2.1 49), .int (nI q)] : List Value).toArray below meth c H locs 0 0 (MQ below (va_Qi (fun r τ => svM σ dv pw kn sa sr rd cnt N O V q r τ) (cv_B E) (cv_A E sz)) ([.ref (E.2.1 49), .int (nI q)] : List Value).toArray s 0 0 (cv_A E sz)) (F0 m 64 ls []) := by
      intro τ' H locs ls hI h hl
      obtain ⟨g1, g2, g3⟩ := hI
      have hsz2 : τ'.2.2.1 49 17 = nI (29 + co_sz O cnt) := by rw [g2]; exact w3
      have hB : sv_F σ τ' := ⟨fun k hk => (g1 k (fun z => hk (by rw [z]; decide))).trans (hf2 k (fun z => hk (by simp at z ⊢; omega))), by rw [g2]; exact hG2.1, fun k i hk => by rw [g2]; exact hF2 k i (by omega), fun k i _ => by rw [g2, hG2.2]⟩
      refine lv_aload_n S.1 S.2.1 dX6_saved_64 rfl (lv_at hl 0 rfl) ?_
      refine lv_iload_n S.1 S.2.1 dX6_saved_65 rfl (lv_at hl 1 rfl) ?_
      refine lv_aload_n S.1 S.2.1 dX6_saved_66 rfl (lv_at hl 0 rfl) ?_
      refine cv_gf (ci := 6) (C := RX6) (T := TX6) (N := 18) (v := .int (τ'.2.2.1 49 17)) S K h 49 rfl hinX6 rfl rfl 17 (by decide) hf_64 rfl rfl dX6_saved_67 ?_
      refine cv_rei (show (τ'.2.2.1 49 17) = nI (29 + co_sz O cnt) from hsz2) ?_
      refine lv_icmp_lt (tgt := 77) S.1 S.2.1 dX6_saved_70 (by decide) (fun c5 => ?_) (fun c5 => ?_)
      · have hlt : q < 29 + co_sz O cnt := (nI_ltI (by omega) (by omega)).mp c5
        refine lv_iconst (v := 0) S.1 S.2.1 dX6_saved_77 (by decide) ?_
        refine cv_pf (ci := 6) (C := RX6) (T := TX6) (N := 18) (x := 0) S K h 49 rfl hinX6 rfl rfl 2 cv_pok_X6_2 hf_147 rfl rfl rfl (Nat.le_of_ble_eq_true rfl) rfl dX6_saved_78 (fun σ97 H locs eσ97 h => ?_)
        refine lv_aload_n S.1 S.2.1 dX6_saved_81 rfl (lv_at hl 0 rfl) ?_
        refine cv_gf (ci := 6) (C := RX6) (T := TX6) (N := 18) (v := .int (σ97.2.2.1 49 2)) S K h 49 rfl hinX6 rfl rfl 2 (by decide) hf_147 rfl rfl dX6_saved_82 ?_
        refine cv_rei (show (σ97.2.2.1 49 2) = 0 from by rw [eσ97, cv_F3, if_pos rfl, if_pos rfl]) ?_
        refine lv_if_eq (tgt := 106) S.1 S.2.1 dX6_saved_85 (by decide) (fun c98 => ?_) (fun c98 => ?_)
        · refine lv_aload_n S.1 S.2.1 dX6_saved_106 rfl (lv_at hl 0 rfl) ?_
          refine cv_gf (ci := 6) (C := RX6) (T := TX6) (N := 18) (v := .int (σ97.2.2.1 49 2)) S K h 49 rfl hinX6 rfl rfl 2 (by decide) hf_147 rfl rfl dX6_saved_107 ?_
          refine cv_rei (show (σ97.2.2.1 49 2) = 0 from by rw [eσ97, cv_F3, if_pos rfl, if_pos rfl]) ?_
          refine cv_zret S hr (by decide) hlk hsz h ⟨?_, ⟨pl, hsv, ?_⟩, Or.inr ⟨hlt, rfl, ?_⟩⟩ dX6_saved_110
          · rw [eσ97]; exact ⟨hB.1, hB.2.1, fun k i hk => by rw [cv_F3]; by_cases h1 : k = 49; (rw [if_pos h1, if_neg (by omega)]; rw [← hB.2.2.1 k i hk, h1]); (rw [if_neg h1]; exact hB.2.2.1 k i hk), hB.2.2.2⟩
          · rw [eσ97]; exact g3
          · rw [eσ97, cv_F3, if_pos rfl, if_pos rfl]
        · exact absurd c98 (by decide)
      · have hge : 29 + co_sz O cnt ≤ q := Nat.not_lt.mp (fun z => c5 (nI_lt z (by omega)))
        refine lv_iconst (v := 1) S.1 S.2.1 dX6_saved_73 (by decide) ?_
        refine lv_goto (tgt := 78) S.1 S.2.1 dX6_saved_74 (by decide) ?_
        refine cv_pf (ci := 6) (C := RX6) (T := TX6) (N := 18) (x := 1) S K h 49 rfl hinX6 rfl rfl 2 cv_pok_X6_2 hf_147 rfl rfl rfl (Nat.le_of_ble_eq_true rfl) rfl dX6_saved_78 (fun σ99 H locs eσ99 h => ?_)
        refine lv_aload_n S.1 S.2.1 dX6_saved_81 rfl (lv_at hl 0 rfl) ?_
        refine cv_gf (ci := 6) (C := RX6) (T := TX6) (N := 18) (v := .int (σ99.2.2.1 49 2)) S K h 49 rfl hinX6 rfl rfl 2 (by decide) hf_147 rfl rfl dX6_saved_82 ?_
        refine cv_rei (show (σ99.2.2.1 49 2) = 1 from by rw [eσ99, cv_F3, if_pos rfl, if_pos rfl]) ?_
        refine lv_if_eq (tgt := 106) S.1 S.2.1 dX6_saved_85 (by decide) (fun c100 => ?_) (fun c100 => ?_)
        · exact absurd c100 (by decide)
        · refine lv_aload_n S.1 S.2.1 dX6_saved_88 rfl (lv_at hl 0 rfl) ?_
          refine lv_dup S.1 S.2.1 dX6_saved_89 rfl ?_
          refine cv_gf (ci := 6) (C := RX6) (T := TX6) (N := 18) (v := .int (σ99.2.2.1 49 7)) S K h 49 rfl hinX6 rfl rfl 7 (by decide) hf_141 rfl rfl dX6_saved_90 ?_
          refine lv_iconst (v := 1) S.1 S.2.1 dX6_saved_93 (by decide) ?_
          refine lv_iadd S.1 S.2.1 dX6_saved_94 ?_
          refine lv_topi (fun ns ens => ?_)
          refine cv_pf (ci := 6) (C := RX6) (T := TX6) (N := 18) (x := ns) S K h 49 rfl hinX6 rfl rfl 7 cv_pok_X6_7 hf_141 rfl rfl rfl (Nat.le_of_ble_eq_true rfl) rfl dX6_saved_95 (fun σ101 H locs eσ101 h => ?_)
          refine lv_aload_n S.1 S.2.1 dX6_saved_98 rfl (lv_at hl 0 rfl) ?_
          refine lv_aload_n S.1 S.2.1 dX6_saved_99 rfl (lv_at hl 0 rfl) ?_
          refine cv_gf (ci := 6) (C := RX6) (T := TX6) (N := 18) (v := .long (σ101.2.2.2 49 3)) S K h 49 rfl hinX6 rfl rfl 3 (by decide) hf_85 rfl rfl dX6_saved_100 ?_
          refine lv_topl (fun nk enk => ?_)
          refine cv_pl (ci := 6) (C := RX6) (T := TX6) (N := 18) (x := nk) S K h 49 rfl hinX6 rfl rfl 4 cv_pok_X6_4 hf_134 rfl (Nat.le_of_ble_eq_true rfl) rfl dX6_saved_103 (fun σ102 H locs eσ102 h => ?_)
          refine lv_aload_n S.1 S.2.1 dX6_saved_106 rfl (lv_at hl 0 rfl) ?_
          refine cv_gf (ci := 6) (C := RX6) (T := TX6) (N := 18) (v := .int (σ102.2.2.1 49 2)) S K h 49 rfl hinX6 rfl rfl 2 (by decide) hf_147 rfl rfl dX6_saved_107 ?_
          refine cv_rei (show (σ102.2.2.1 49 2) = 1 from by rw [eσ102, cv_G3]; exact (by rw [eσ101, cv_F3, if_pos rfl, if_neg (by decide)]; exact (by rw [eσ99, cv_F3, if_pos rfl, if_pos rfl]))) ?_
          have hns : ns = sr + 1 := by rw [ens, eσ99, cv_F3, if_pos rfl, if_neg (by decide), g2, hF2 49 7 (Or.inr (by decide)), hsr]
          have hnk : nk = pw := by rw [enk, eσ101, eσ99]; show τ'.2.2.2 49 3 = pw; rw [g2, hG2.2]; exact hpw
          refine cv_zret S hr (by decide) hlk hsz h ⟨?_, ⟨pl, hsv, ?_⟩, Or.inl ⟨hge, rfl, ?_, ?_, ?_⟩⟩ dX6_saved_110
          · rw [eσ102, eσ101, eσ99]
            refine ⟨hB.1, hB.2.1, fun k i hk => ?_, fun k i hk => ?_⟩
            · rw [cv_G3, cv_F3, cv_F3, cv_F3]
              by_cases h1 : k = 49
              · rw [if_pos h1, if_neg (by omega), if_pos rfl, if_neg (by omega), ← hB.2.2.1 k i hk, h1]
              · rw [if_neg h1, if_neg h1]; exact hB.2.2.1 k i hk
            · rw [cv_G4]
              by_cases h1 : k = 49
              · rw [if_pos h1, if_neg (by omega), ← hB.2.2.2 k i hk, h1]; rfl
              · rw [if_neg h1]; exact hB.2.2.2 k i hk
          · rw [eσ102, eσ101, eσ99]; exact g3
          · rw [eσ102, cv_G3, eσ101, cv_F3, if_pos rfl, if_neg (by decide), eσ99, cv_F3, if_pos rfl, if_pos rfl]
          · rw [eσ102, cv_G3, eσ101, cv_F3, if_pos rfl, if_pos rfl, hns]
          · rw [eσ102, cv_G4, if_pos rfl, if_pos rfl, hnk]
    refine cv_loop (α := Unit) (nL := 4) (min q (29 + co_sz O cnt)) (fun i a τ => (∀ k, k ≠ 50 → τ.1 k = σ96.1 k) ∧ τ.2 = σ96.2 ∧ by_R (τ.1 50) (sdv dv pl (fl pw sa (sr + 1) rd (co_l N O V cnt cnt)) i) 600) (fun i a => [(3, .int (nI i)), (2, .int (nI pl)), (0, .ref (E.2.1 49)), (1, .int (nI q))]) ?_ ?_ 0 () σ96 _ _ _ (by omega) (⟨fun _ _ => rfl, rfl, fun j hj => by unfold sdv; rw [if_neg (by omega), hf2 50 (by decide)]; exact hdv j hj⟩) h hl
    · intro i a τ H locs ls hi hI h hl ih
      have hl : lv_has ls 4 [(3, .int (nI i)), (2, .int (nI pl)), (0, .ref (E.2.1 49)), (1, .int (nI q))] := hl
      obtain ⟨g1, g2, g3⟩ := hI
      have hi2 : i < q ∧ i < 29 + co_sz O cnt := by omega
      refine lv_iload_n S.1 S.2.1 dX6_saved_31 rfl (lv_at hl 0 rfl) ?_
      refine lv_aload_n S.1 S.2.1 dX6_saved_32 rfl (lv_at hl 2 rfl) ?_
      refine cv_gf (ci := 6) (C := RX6) (T := TX6) (N := 18) (v := .int (τ.2.2.1 49 17)) S K h 49 rfl hinX6 rfl rfl 17 (by decide) hf_64 rfl rfl dX6_saved_33 ?_
      refine cv_rei (show (τ.2.2.1 49 17) = nI (29 + co_sz O cnt) from by rw [g2]; exact w3) ?_
      refine lv_icmp_ge (tgt := 64) S.1 S.2.1 dX6_saved_36 (by decide) (fun c1 => ?_) (fun c1 => ?_)
      · exact absurd c1 (nI_ge hi2.2 (by omega))
      · refine lv_iload_n S.1 S.2.1 dX6_saved_39 rfl (lv_at hl 0 rfl) ?_
        refine lv_iload_n S.1 S.2.1 dX6_saved_40 rfl (lv_at hl 3 rfl) ?_
        refine lv_icmp_ge (tgt := 64) S.1 S.2.1 dX6_saved_41 (by decide) (fun c2 => ?_) (fun c2 => ?_)
        · exact absurd c2 (nI_ge hi2.1 hq)
        · refine lv_aload_n S.1 S.2.1 dX6_saved_44 rfl (lv_at hl 2 rfl) ?_
          refine cv_gf (ci := 6) (C := RX6) (T := TX6) (N := 18) (v := .ref (E.2.1 50)) S K h 49 rfl hinX6 rfl rfl 1 (by decide) hf_7 rfl rfl dX6_saved_45 ?_
          refine lv_iload_n S.1 S.2.1 dX6_saved_48 rfl (lv_at hl 1 rfl) ?_
          refine lv_iload_n S.1 S.2.1 dX6_saved_49 rfl (lv_at hl 0 rfl) ?_
          refine lv_iadd S.1 S.2.1 dX6_saved_50 ?_
          refine cv_rei (show (((nI pl)) + ((nI i))) = nI (pl + i) from nI_add _ _) ?_
          refine lv_aload_n S.1 S.2.1 dX6_saved_51 rfl (lv_at hl 2 rfl) ?_
          refine cv_gf (ci := 6) (C := RX6) (T := TX6) (N := 18) (v := .ref (E.2.1 58)) S K h 49 rfl hinX6 rfl rfl 16 (by decide) hf_35 rfl rfl dX6_saved_52 ?_
          refine lv_iload_n S.1 S.2.1 dX6_saved_55 rfl (lv_at hl 0 rfl) ?_
          refine cv_iald S K h 58 rfl (n := 300) rfl i rfl (by omega) dX6_saved_56 ?_
          refine lv_topi (fun bx ebx => ?_)
          refine cv_iast (x := bx) S K h 50 rfl (n := 600) rfl (pl + i) rfl (by omega) dX6_saved_57 (fun σ103 H locs eσ103 h => ?_)
          obtain ⟨z5, ez5⟩ : ∃ y : Int32, y = ((nI i)) + 1 := ⟨_, rfl⟩
          refine lv_iinc (v := z5) (lv' := [(3, .int z5), (2, .int (nI pl)), (0, .ref (E.2.1 49)), (1, .int (nI q))]) S.1 S.2.1 dX6_saved_58 hl (k := 0) rfl (by rw [ez5]; rfl) (by decide) rfl (fun ls hl => ?_)
          refine lv_goto (tgt := 31) S.1 S.2.1 dX6_saved_61 (by decide) ?_
          rw [ez5, nI_1] at hl
          have hbx := w2 i (by rw [hFl]; exact hi2.2)
          rw [Nat.zero_add] at hbx
          refine ih () σ103 H locs ls ?_ h hl
          rw [eσ103]
          refine ⟨fun k hk => by rw [cv_I1, if_neg hk]; exact g1 k hk, g2, fun j hj => ?_⟩
          rw [cv_I1, if_pos rfl]
          by_cases hji : j = pl + i
          · rw [hji, pk_us, ebx, g1 58 (by decide)]
            unfold sdv
            rw [if_pos (by omega), show pl + i - pl = i by omega]
            exact hbx
          · rw [pk_un hji]
            have := g3 j hj
            unfold sdv at this ⊢
            by_cases hj2 : pl ≤ j ∧ j < pl + i
            · rw [if_pos hj2] at this; rw [if_pos (by omega)]; exact this
            · rw [if_neg hj2] at this; rw [if_neg (by omega)]; exact this
    · intro a τ H locs ls hI h hl
      have hl : lv_has ls 4 [(3, .int (nI (min q (29 + co_sz O cnt)))), (2, .int (nI pl)), (0, .ref (E.2.1 49)), (1, .int (nI q))] := hl
      refine lv_iload_n S.1 S.2.1 dX6_saved_31 rfl (lv_at hl 0 rfl) ?_
      refine lv_aload_n S.1 S.2.1 dX6_saved_32 rfl (lv_at hl 2 rfl) ?_
      refine cv_gf (ci := 6) (C := RX6) (T := TX6) (N := 18) (v := .int (τ.2.2.1 49 17)) S K h 49 rfl hinX6 rfl rfl 17 (by decide) hf_64 rfl rfl dX6_saved_33 ?_
      refine cv_rei (show (τ.2.2.1 49 17) = nI (29 + co_sz O cnt) from by rw [hI.2.1]; exact w3) ?_
      refine lv_icmp_ge (tgt := 64) S.1 S.2.1 dX6_saved_36 (by decide) (fun c1 => ?_) (fun c1 => ?_)
      · exact end64 τ H locs ls hI h (lv_sub hl [2, 3] rfl)
      · refine lv_iload_n S.1 S.2.1 dX6_saved_39 rfl (lv_at hl 0 rfl) ?_
        refine lv_iload_n S.1 S.2.1 dX6_saved_40 rfl (lv_at hl 3 rfl) ?_
        refine lv_icmp_ge (tgt := 64) S.1 S.2.1 dX6_saved_41 (by decide) (fun c2 => ?_) (fun c2 => ?_)
        · exact end64 τ H locs ls hI h (lv_sub hl [2, 3] rfl)
        · rcases Nat.le_total q (29 + co_sz O cnt) with z | z
          · rw [Nat.min_eq_left z] at c2; exact absurd (Int32.le_refl _) c2
          · rw [Nat.min_eq_right z] at c1; exact absurd (Int32.le_refl _) c1
  refine lv_if_ne (tgt := 17) S.1 S.2.1 dX6_saved_8 (by decide) (fun c0 => ?_) (fun c0 => ?_)
  · refine lv_iconst (v := 0) S.1 S.2.1 dX6_saved_17 (by decide) ?_
    refine lv_istore_n (lv' := [(2, .int 0), (0, .ref (E.2.1 49)), (1, .int (nI q))]) S.1 S.2.1 dX6_saved_18 rfl hl (by decide) rfl (fun ls hl => ?_)
    exact key 0 H locs ls (by decide) ⟨rn, hnw.2, by rw [if_neg c0]⟩ h hl
  · refine lv_sipush (v := 300) S.1 S.2.1 dX6_saved_11 (by decide) ?_
    refine lv_goto (tgt := 18) S.1 S.2.1 dX6_saved_14 (by decide) ?_
    refine lv_istore_n (lv' := [(2, .int 300), (0, .ref (E.2.1 49)), (1, .int (nI q))]) S.1 S.2.1 dX6_saved_18 rfl hl (by decide) rfl (fun ls hl => ?_)
    exact key 300 H locs ls (by decide) ⟨rn, hnw.2, by rw [if_pos c0]⟩ h hl

set_option maxHeartbeats 4000000 in
set_option maxRecDepth 100000 in
theorem m_save (l : Launch) (E : cv_E) (σ : cv_S) (hop : σ.2.2.1 49 2 = 0 ∨ σ.2.2.1 49 2 = 1) (dv : Nat → Nat) (hdv : by_R (σ.1 50) dv 600) (pw kn : Int64) (sa sr : Int32) (rd cnt : Nat) (N : Nat → Int64) (O : Nat → Nat) (V : Nat → Nat → Int64) (hV : σ.2.2.1 49 2 = 1 → rd ≤ 40 ∧ σ.2.2.2 49 3 = pw ∧ σ.2.2.2 49 4 = kn ∧ σ.2.2.1 49 5 = sa ∧ σ.2.2.1 49 6 = nI rd ∧ σ.2.2.1 49 7 = sr ∧ em_R σ cnt N O V) (po : Int32) : cv_Mi l E yX6_save wsX6_save (cv_R 10) [.ref (E.2.1 49), .int po] σ (fun r τ => (σ.2.2.1 49 2 = 0 ∧ τ = cv_uF σ 49 0 1) ∨ (σ.2.2.1 49 2 = 1 ∧ po < 0 ∧ τ = cv_uF σ 49 0 2) ∨ (σ.2.2.1 49 2 = 1 ∧ ∃ q, q < 2 ^ 31 ∧ po = nI q ∧ svM (cv_uF σ 49 0 0) dv pw kn sa sr rd cnt N O V q r τ)) := by
  intro sz
  refine cv_in (ws := wsX6_save) (cc := cX6_save) (maxL := 2) (ret := (some .boolean)) (own := RX6) rfl (by decide) rfl (Nat.le_of_ble_eq_true rfl) ?_
  intro p e s m below meth c S K hr hlk hsz h ls hl
  have hl : lv_has ls 2 [(0, .ref (E.2.1 49)), (1, .int po)] := hl
  have hinX6 : ∀ w ∈ u_ws RX6 TX6 18, w ∈ wsX6_save := by decide +kernel
  have hf_147 := S.2.2.2.2 (.fieldLink RX6 147 "CrashVaultModel" "open" "Z") (by decide +kernel)
  have hf_38 := S.2.2.2.2 (.fieldLink RX6 38 "CrashVaultModel" "thrown" "I") (by decide +kernel)
  rcases hop with ho | ho
  · refine lv_aload_n S.1 S.2.1 dX6_save_0 rfl (lv_at hl 0 rfl) ?_
    refine lv_aload_n S.1 S.2.1 dX6_save_1 rfl (lv_at hl 0 rfl) ?_
    refine cv_gf (ci := 6) (C := RX6) (T := TX6) (N := 18) (v := .int (σ.2.2.1 49 2)) S K h 49 rfl hinX6 rfl rfl 2 (by decide) hf_147 rfl rfl dX6_save_2 ?_
    refine cv_rei (show (σ.2.2.1 49 2) = 0 from ho) ?_
    refine lv_if_ne (tgt := 12) S.1 S.2.1 dX6_save_5 (by decide) (fun c104 => ?_) (fun c104 => ?_)
    · exact absurd c104 (by decide)
    · refine lv_iconst (v := 1) S.1 S.2.1 dX6_save_8 (by decide) ?_
      refine lv_goto (tgt := 21) S.1 S.2.1 dX6_save_9 (by decide) ?_
      refine cv_pf (ci := 6) (C := RX6) (T := TX6) (N := 18) (x := 1) S K h 49 rfl hinX6 rfl rfl 0 cv_pok_X6_0 hf_38 rfl rfl rfl (Nat.le_of_ble_eq_true rfl) rfl dX6_save_21 (fun σ105 H locs eσ105 h => ?_)
      refine lv_aload_n S.1 S.2.1 dX6_save_24 rfl (lv_at hl 0 rfl) ?_
      refine cv_gf (ci := 6) (C := RX6) (T := TX6) (N := 18) (v := .int (σ105.2.2.1 49 0)) S K h 49 rfl hinX6 rfl rfl 0 (by decide) hf_38 rfl rfl dX6_save_25 ?_
      refine cv_rei (show (σ105.2.2.1 49 0) = 1 from by rw [eσ105, cv_F3, if_pos rfl, if_pos rfl]) ?_
      refine lv_if_ne (tgt := 43) S.1 S.2.1 dX6_save_28 (by decide) (fun c106 => ?_) (fun c106 => ?_)
      · refine lv_iconst (v := 0) S.1 S.2.1 dX6_save_43 (by decide) ?_
        exact cv_zret S hr (by decide) hlk hsz h (Or.inl ⟨ho, eσ105⟩) dX6_save_44
      · exact absurd c106 (by decide)
  · refine lv_aload_n S.1 S.2.1 dX6_save_0 rfl (lv_at hl 0 rfl) ?_
    refine lv_aload_n S.1 S.2.1 dX6_save_1 rfl (lv_at hl 0 rfl) ?_
    refine cv_gf (ci := 6) (C := RX6) (T := TX6) (N := 18) (v := .int (σ.2.2.1 49 2)) S K h 49 rfl hinX6 rfl rfl 2 (by decide) hf_147 rfl rfl dX6_save_2 ?_
    refine cv_rei (show (σ.2.2.1 49 2) = 1 from ho) ?_
    refine lv_if_ne (tgt := 12) S.1 S.2.1 dX6_save_5 (by decide) (fun c107 => ?_) (fun c107 => ?_)
    · refine lv_iload_n S.1 S.2.1 dX6_save_12 rfl (lv_at hl 1 rfl) ?_
      refine lv_if_ge (tgt := 20) S.1 S.2.1 dX6_save_13 (by decide) (fun c108 => ?_) (fun c108 => ?_)
      · refine lv_iconst (v := 0) S.1 S.2.1 dX6_save_20 (by decide) ?_
        refine cv_pf (ci := 6) (C := RX6) (T := TX6) (N := 18) (x := 0) S K h 49 rfl hinX6 rfl rfl 0 cv_pok_X6_0 hf_38 rfl rfl rfl (Nat.le_of_ble_eq_true rfl) rfl dX6_save_21 (fun σ109 H locs eσ109 h => ?_)
        refine lv_aload_n S.1 S.2.1 dX6_save_24 rfl (lv_at hl 0 rfl) ?_
        refine cv_gf (ci := 6) (C := RX6) (T := TX6) (N := 18) (v := .int (σ109.2.2.1 49 0)) S K h 49 rfl hinX6 rfl rfl 0 (by decide) hf_38 rfl rfl dX6_save_25 ?_
        refine cv_rei (show (σ109.2.2.1 49 0) = 0 from by rw [eσ109, cv_F3, if_pos rfl, if_pos rfl]) ?_
        refine lv_if_ne (tgt := 43) S.1 S.2.1 dX6_save_28 (by decide) (fun c110 => ?_) (fun c110 => ?_)
        · exact absurd c110 (by decide)
        · obtain ⟨v1, v2, v3, v4, v5, v6, v7⟩ := hV ho
          obtain ⟨q, hq, hpo⟩ := nI_of (Int32.not_lt.mpr c108)
          subst hpo
          refine lv_aload_n S.1 S.2.1 dX6_save_31 rfl (lv_at hl 0 rfl) ?_
          refine lv_iload_n S.1 S.2.1 dX6_save_32 rfl (lv_at hl 1 rfl) ?_
          refine cv_calli (ci := 6) (C := RX6) (T := TX6) (N := 18) S K h hl.1 rfl rfl rfl (m_saved l E σ109 dv (by rw [eσ109]; exact hdv) pw kn sa sr rd cnt N O V v1 (by rw [eσ109]; exact v2) (by rw [eσ109]; exact v3) (by rw [eσ109, cv_F3, if_pos rfl, if_neg (by decide)]; exact v4) (by rw [eσ109, cv_F3, if_pos rfl, if_neg (by decide)]; exact v5) (by rw [eσ109, cv_F3, if_pos rfl, if_neg (by decide)]; exact v6) (by rw [eσ109]; exact em_uF v7 (by decide)) q hq) (cwV 1 S.2.2.2.2 gX6_save_X6_saved rfl rfl rfl (by decide +kernel) ⟨Nat.le_of_ble_eq_true rfl, Nat.le_of_ble_eq_true rfl⟩) rfl rfl (Nat.le_of_ble_eq_true rfl) ⟨Nat.zero_le _, Nat.zero_le _⟩ dX6_save_33 (fun rs σ111 H locs hsv h => ?_)
          rw [eσ109] at hsv
          have hr01 : rs = 1 ∨ rs = 0 := hsv.2.2.elim (fun z => Or.inl z.2.1) (fun z => Or.inr z.2.1)
          rcases hr01 with z | z
          · subst z
            refine lv_if_eq (tgt := 43) S.1 S.2.1 dX6_save_36 (by decide) (fun c112 => ?_) (fun c112 => ?_)
            · exact absurd c112 (by decide)
            · refine lv_iconst (v := 1) S.1 S.2.1 dX6_save_39 (by decide) ?_
              refine lv_goto (tgt := 44) S.1 S.2.1 dX6_save_40 (by decide) ?_
              exact cv_zret S hr (by decide) hlk hsz h (Or.inr (Or.inr ⟨ho, q, hq, rfl, hsv⟩)) dX6_save_44
          · subst z
            refine lv_if_eq (tgt := 43) S.1 S.2.1 dX6_save_36 (by decide) (fun c113 => ?_) (fun c113 => ?_)
            · refine lv_iconst (v := 0) S.1 S.2.1 dX6_save_43 (by decide) ?_
              exact cv_zret S hr (by decide) hlk hsz h (Or.inr (Or.inr ⟨ho, q, hq, rfl, hsv⟩)) dX6_save_44
            · exact absurd c113 (by decide)
      · refine lv_iconst (v := 2) S.1 S.2.1 dX6_save_16 (by decide) ?_
        refine lv_goto (tgt := 21) S.1 S.2.1 dX6_save_17 (by decide) ?_
        refine cv_pf (ci := 6) (C := RX6) (T := TX6) (N := 18) (x := 2) S K h 49 rfl hinX6 rfl rfl 0 cv_pok_X6_0 hf_38 rfl rfl rfl (Nat.le_of_ble_eq_true rfl) rfl dX6_save_21 (fun σ114 H locs eσ114 h => ?_)
        refine lv_aload_n S.1 S.2.1 dX6_save_24 rfl (lv_at hl 0 rfl) ?_
        refine cv_gf (ci := 6) (C := RX6) (T := TX6) (N := 18) (v := .int (σ114.2.2.1 49 0)) S K h 49 rfl hinX6 rfl rfl 0 (by decide) hf_38 rfl rfl dX6_save_25 ?_
        refine cv_rei (show (σ114.2.2.1 49 0) = 2 from by rw [eσ114, cv_F3, if_pos rfl, if_pos rfl]) ?_
        refine lv_if_ne (tgt := 43) S.1 S.2.1 dX6_save_28 (by decide) (fun c115 => ?_) (fun c115 => ?_)
        · refine lv_iconst (v := 0) S.1 S.2.1 dX6_save_43 (by decide) ?_
          exact cv_zret S hr (by decide) hlk hsz h (Or.inr (Or.inl ⟨ho, Int32.not_le.mp c108, eσ114⟩)) dX6_save_44
        · exact absurd c115 (by decide)
    · exact absurd c107 (by decide)
