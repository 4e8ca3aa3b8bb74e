/-! 39: the reference: make, open -/
/-- nothing but the reference has changed -/
def md_F (σ τ : cv_S) : Prop := ∀ k, (k < 49 ∨ k = 59) → τ.1 k = σ.1 k ∧ τ.2.1 k = σ.2.1 k ∧ τ.2.2.1 k = σ.2.2.1 k ∧ τ.2.2.2 k = σ.2.2.2 k
theorem md_F.rf {σ : cv_S} : md_F σ σ := fun _ _ => ⟨rfl, rfl, rfl, rfl⟩
theorem md_F.trans {σ σ' σ'' : cv_S} (h : md_F σ σ') (h' : md_F σ' σ'') : md_F σ σ'' := fun k hk => ⟨(h' k hk).1.trans (h k hk).1, (h' k hk).2.1.trans (h k hk).2.1, (h' k hk).2.2.1.trans (h k hk).2.2.1, (h' k hk).2.2.2.trans (h k hk).2.2.2⟩
theorem md_uF {σ : cv_S} {i : Nat} {x : Int32} : md_F σ (cv_uF σ 49 i x) := fun k hk => ⟨rfl, rfl, funext fun j => by rw [cv_F3, if_neg (by omega)], rfl⟩
theorem md_uG {σ : cv_S} {i : Nat} {x : Int64} : md_F σ (cv_uG σ 49 i x) := fun k hk => ⟨rfl, rfl, rfl, funext fun j => by rw [cv_G4, if_neg (by omega)]⟩
theorem md_fr {S : List Nat} {σ τ : cv_S} (h : cv_fr S σ τ) (hS : ∀ k ∈ S, ¬ (k < 49 ∨ k = 59)) : md_F σ τ := fun k hk => ⟨h.1 k (fun q => hS k q hk), by rw [h.2], by rw [h.2], by rw [h.2]⟩
theorem md_sv {σ τ : cv_S} (h : sv_F σ τ) : md_F σ τ := fun k hk => ⟨h.1 k (by simp; omega), by rw [h.2.1], funext fun i => h.2.2.1 k i (Or.inl (by omega)), funext fun i => h.2.2.2 k i (Or.inl (by omega))⟩
theorem md_mp {σ τ : cv_S} (h : mp_F σ τ) : md_F σ τ := fun k hk => ⟨h.1 k (by omega), h.2.1 k (by omega) (by omega), funext fun i => h.2.2.1 k i (Or.inl (by omega)), by rw [h.2.2.2]⟩
theorem gd_zero (pw : Int64) {bv : Nat → Nat} (h : bv 0 = 0) : ¬ gd bv pw := fun g => by
  have := g.1.1
  rw [h] at this
  exact absurd this (by decide)
/-- what make does, over the reference -/
def mkM (σ : cv_S) (pw : Int64) (sa rr po : Int32) (r : Int32) (τ : cv_S) : Prop :=
  (¬ (okR rr ∧ ¬ po < 0) ∧ τ = cv_uF σ 49 0 1) ∨ (∃ rd q, 1 ≤ rd ∧ rd ≤ 40 ∧ rr = nI rd ∧ q < 2 ^ 31 ∧ po = nI q ∧ τ.2.2.1 49 0 = 0 ∧ md_F σ τ ∧ by_R (τ.1 50) (sdv (fun _ => 0) 0 (fl pw sa (0 + 1) rd (byl (nI 0).toInt64 1)) (min q 30)) 600 ∧ τ.2.2.1 49 8 = nI 0 ∧
    ((30 ≤ q ∧ r = 1 ∧ τ.2.2.1 49 2 = 1 ∧ τ.2.2.1 49 7 = 0 + 1 ∧ τ.2.2.2 49 4 = pw ∧ τ.2.2.2 49 3 = pw ∧ τ.2.2.1 49 5 = sa ∧ τ.2.2.1 49 6 = nI rd) ∨ (q < 30 ∧ r = 0 ∧ τ.2.2.1 49 2 = 0)))
/-- what open finds in a good slot -/
def opG (σ : cv_S) (bv : Nat → Nat) (pw : Int64) (r : Int32) (τ : cv_S) : Prop :=
  r = nI (nv bv 2 4) ∧ τ.2.2.1 49 0 = 0 ∧ τ.2.2.1 49 2 = 1 ∧ τ.2.2.2 49 3 = pw ∧ τ.2.2.2 49 4 = pw ∧ τ.2.2.1 49 7 = nI (nv bv 2 4) ∧ τ.2.2.1 49 5 = nI (nv bv 6 4) ∧ τ.2.2.1 49 6 = nI (bv 10) ∧ em_R τ (sp bv pw 21) (pN (sp bv pw)) (pO (sp bv pw)) (pV (sp bv pw)) ∧ τ.1 50 = σ.1 50 ∧ md_F σ τ
def opM (σ : cv_S) (dv : Nat → Nat) (pw : Int64) (r : Int32) (τ : cv_S) : Prop :=
  (¬ gd dv pw ∧ ¬ gd (fun q => dv (300 + q)) pw ∧ ∃ ρ, cv_fr [54, 55, 56, 57, 58] σ ρ ∧ τ = cv_uF ρ 49 0 1) ∨ (nwR 0 dv (fun q => dv (300 + q)) pw ∧ gd dv pw ∧ opG σ dv pw r τ) ∨ (nwR 1 dv (fun q => dv (300 + q)) pw ∧ gd (fun q => dv (300 + q)) pw ∧ opG σ (fun q => dv (300 + q)) pw r τ)

set_option maxHeartbeats 4000000 in
set_option maxRecDepth 100000 in
theorem m_make (l : Launch) (E : cv_E) (σ : cv_S) (pw : Int64) (sa rr po : Int32) : cv_Mi l E yX6_make wsX6_make (cv_R 10) [.ref (E.2.1 49), .long pw, .int sa, .int rr, .int po] σ (fun r τ => mkM σ pw sa rr po r τ) := by
  intro sz
  refine cv_in (ws := wsX6_make) (cc := cX6_make) (maxL := 7) (ret := (some .boolean)) (own := RX6) rfl (by decide) rfl (Nat.le_of_ble_eq_true rfl) ?_
  intro p e s m below meth c S K hr hlk hsz h ls hl
  have hl : lv_has ls 7 [(0, .ref (E.2.1 49)), (1, .long pw), (3, .int sa), (4, .int rr), (5, .int po)] := hl
  have hinX6 : ∀ w ∈ u_ws RX6 TX6 18, w ∈ wsX6_make := by decide +kernel
  have hf_134 := S.2.2.2.2 (.fieldLink RX6 134 "CrashVaultModel" "known" "J") (by decide +kernel)
  have hf_141 := S.2.2.2.2 (.fieldLink RX6 141 "CrashVaultModel" "serial" "I") (by decide +kernel)
  have hf_38 := S.2.2.2.2 (.fieldLink RX6 38 "CrashVaultModel" "thrown" "I") (by decide +kernel)
  have hf_7 := S.2.2.2.2 (.fieldLink RX6 7 "CrashVaultModel" "disk" "[I") (by decide +kernel)
  have hf_78 := S.2.2.2.2 (.fieldLink RX6 78 "CrashVaultModel" "entries" "I") (by decide +kernel)
  have hf_85 := S.2.2.2.2 (.fieldLink RX6 85 "CrashVaultModel" "password" "J") (by decide +kernel)
  have hf_89 := S.2.2.2.2 (.fieldLink RX6 89 "CrashVaultModel" "salt" "I") (by decide +kernel)
  have hf_92 := S.2.2.2.2 (.fieldLink RX6 92 "CrashVaultModel" "rounds" "I") (by decide +kernel)
  refine lv_aload_n S.1 S.2.1 dX6_make_0 rfl (lv_at hl 0 rfl) ?_
  refine lv_iload S.1 S.2.1 dX6_make_1 (lv_at hl 3 rfl) ?_
  refine cv_callsi S K h hl.1 (m_isRounds l E σ rr) (va_cwS 1 S.2.2.2.2 gX6_make_X6_isRounds rfl rfl rfl (by decide +kernel) ⟨Nat.le_of_ble_eq_true rfl, Nat.le_of_ble_eq_true rfl⟩) rfl rfl (Nat.le_of_ble_eq_true rfl) ⟨Nat.zero_le _, Nat.zero_le _⟩ dX6_make_3 (fun rq σ14 H locs ⟨hq, hs9⟩ h => ?_)
  rw [hs9] at h
  rcases hq with ⟨q1, q2⟩ | ⟨q1, q2⟩
  · subst q1
    refine lv_if_eq (tgt := 18) S.1 S.2.1 dX6_make_6 (by decide) (fun c15 => ?_) (fun c15 => ?_)
    · exact absurd c15 (by decide)
    · refine lv_iload S.1 S.2.1 dX6_make_9 (lv_at hl 4 rfl) ?_
      refine lv_if_lt (tgt := 18) S.1 S.2.1 dX6_make_11 (by decide) (fun c16 => ?_) (fun c16 => ?_)
      · refine lv_iconst (v := 1) S.1 S.2.1 dX6_make_18 (by decide) ?_
        refine cv_pf (ci := 6) (C := RX6) (T := TX6) (N := 18) (x := 1) S K h 49 rfl hinX6 rfl rfl 0 cv_pok_X6_0 hf_38 rfl rfl rfl (Nat.le_of_ble_eq_true rfl) rfl dX6_make_19 (fun σ17 H locs eσ17 h => ?_)
        refine lv_aload_n S.1 S.2.1 dX6_make_22 rfl (lv_at hl 0 rfl) ?_
        refine cv_gf (ci := 6) (C := RX6) (T := TX6) (N := 18) (v := .int (σ17.2.2.1 49 0)) S K h 49 rfl hinX6 rfl rfl 0 (by decide) hf_38 rfl rfl dX6_make_23 ?_
        refine cv_rei (show (σ17.2.2.1 49 0) = 1 from by rw [eσ17, cv_F3, if_pos rfl, if_pos rfl]) ?_
        refine lv_if_le (tgt := 31) S.1 S.2.1 dX6_make_26 (by decide) (fun c18 => ?_) (fun c18 => ?_)
        · exact absurd c18 (by decide)
        · refine lv_iconst (v := 0) S.1 S.2.1 dX6_make_29 (by decide) ?_
          exact cv_zret S hr (by decide) hlk hsz h (Or.inl ⟨fun z => z.2 c16, eσ17⟩) dX6_make_30
      · refine lv_iconst (v := 0) S.1 S.2.1 dX6_make_14 (by decide) ?_
        refine lv_goto (tgt := 19) S.1 S.2.1 dX6_make_15 (by decide) ?_
        refine cv_pf (ci := 6) (C := RX6) (T := TX6) (N := 18) (x := 0) S K h 49 rfl hinX6 rfl rfl 0 cv_pok_X6_0 hf_38 rfl rfl rfl (Nat.le_of_ble_eq_true rfl) rfl dX6_make_19 (fun σ19 H locs eσ19 h => ?_)
        refine lv_aload_n S.1 S.2.1 dX6_make_22 rfl (lv_at hl 0 rfl) ?_
        refine cv_gf (ci := 6) (C := RX6) (T := TX6) (N := 18) (v := .int (σ19.2.2.1 49 0)) S K h 49 rfl hinX6 rfl rfl 0 (by decide) hf_38 rfl rfl dX6_make_23 ?_
        refine cv_rei (show (σ19.2.2.1 49 0) = 0 from by rw [eσ19, cv_F3, if_pos rfl, if_pos rfl]) ?_
        refine lv_if_le (tgt := 31) S.1 S.2.1 dX6_make_26 (by decide) (fun c20 => ?_) (fun c20 => ?_)
        · obtain ⟨rd, hrd1, hrd40, hrr⟩ := q2
          obtain ⟨q, hq, hpo⟩ := nI_of c16
          subst hrr
          subst hpo
          refine lv_iconst (v := 0) S.1 S.2.1 dX6_make_31 (by decide) ?_
          refine lv_istore (lv' := [(6, .int 0), (0, .ref (E.2.1 49)), (1, .long pw), (3, .int sa), (4, .int (nI rd)), (5, .int (nI q))]) S.1 S.2.1 dX6_make_32 hl (by decide) rfl (fun ls hl => ?_)
          refine cv_loop (α := Unit) (nL := 7) 600 (fun i a τ => (∀ k, k ≠ 50 → τ.1 k = σ19.1 k) ∧ τ.2 = σ19.2 ∧ ∀ j, j < i → τ.1 50 j = 0) (fun i a => [(6, .int (nI i)), (0, .ref (E.2.1 49)), (1, .long pw), (3, .int sa), (4, .int (nI rd)), (5, .int (nI q))]) ?_ ?_ 0 () σ19 _ _ _ (by omega) (⟨fun _ _ => rfl, rfl, fun j hj => absurd hj (Nat.not_lt_zero j)⟩) h hl
          · intro i a τ H locs ls hi hI h hl ih
            have hl : lv_has ls 7 [(6, .int (nI i)), (0, .ref (E.2.1 49)), (1, .long pw), (3, .int sa), (4, .int (nI rd)), (5, .int (nI q))] := hl
            obtain ⟨g1, g2, g3⟩ := hI
            refine lv_iload S.1 S.2.1 dX6_make_34 (lv_at hl 0 rfl) ?_
            refine lv_sipush (v := 600) S.1 S.2.1 dX6_make_36 (by decide) ?_
            refine lv_icmp_ge (tgt := 56) S.1 S.2.1 dX6_make_39 (by decide) (fun d1 => ?_) (fun d1 => ?_)
            · exact absurd d1 (nI_ge (b := 600) hi (by decide))
            · refine lv_aload_n S.1 S.2.1 dX6_make_42 rfl (lv_at hl 1 rfl) ?_
              refine cv_gf (ci := 6) (C := RX6) (T := TX6) (N := 18) (v := .ref (E.2.1 50)) S K h 49 rfl hinX6 rfl rfl 1 (by decide) hf_7 rfl rfl dX6_make_43 ?_
              refine lv_iload S.1 S.2.1 dX6_make_46 (lv_at hl 0 rfl) ?_
              refine lv_iconst (v := 0) S.1 S.2.1 dX6_make_48 (by decide) ?_
              refine cv_iast (x := 0) S K h 50 rfl (n := 600) rfl i rfl hi dX6_make_49 (fun σ21 H locs eσ21 h => ?_)
              obtain ⟨z5, ez5⟩ : ∃ y : Int32, y = ((nI i)) + 1 := ⟨_, rfl⟩
              refine lv_iinc (v := z5) (lv' := [(6, .int z5), (0, .ref (E.2.1 49)), (1, .long pw), (3, .int sa), (4, .int (nI rd)), (5, .int (nI q))]) S.1 S.2.1 dX6_make_50 hl (k := 0) rfl (by rw [ez5]; rfl) (by decide) rfl (fun ls hl => ?_)
              refine lv_goto (tgt := 34) S.1 S.2.1 dX6_make_53 (by decide) ?_
              rw [ez5, nI_1] at hl
              refine ih () σ21 H locs ls ?_ h hl
              rw [eσ21]
              refine ⟨fun k hk => by rw [cv_I1, if_neg hk]; exact g1 k hk, g2, fun j hj => ?_⟩
              rw [cv_I1, if_pos rfl]
              by_cases hji : j = i
              · rw [hji, pk_us]
              · rw [pk_un hji]; exact g3 j (by omega)
          · intro a τ H locs ls hI h hl
            have hl : lv_has ls 7 [(6, .int (nI 600)), (0, .ref (E.2.1 49)), (1, .long pw), (3, .int sa), (4, .int (nI rd)), (5, .int (nI q))] := hl
            obtain ⟨g1, g2, g3⟩ := hI
            refine lv_iload S.1 S.2.1 dX6_make_34 (lv_at hl 0 rfl) ?_
            refine lv_sipush (v := 600) S.1 S.2.1 dX6_make_36 (by decide) ?_
            refine lv_icmp_ge (tgt := 56) S.1 S.2.1 dX6_make_39 (by decide) (fun d1 => ?_) (fun d1 => ?_)
            · refine lv_aload_n S.1 S.2.1 dX6_make_56 rfl (lv_at hl 1 rfl) ?_
              refine lv_lload_n S.1 S.2.1 dX6_make_57 rfl (lv_at hl 2 rfl) ?_
              refine cv_pl (ci := 6) (C := RX6) (T := TX6) (N := 18) (x := pw) S K h 49 rfl hinX6 rfl rfl 3 cv_pok_X6_3 hf_85 rfl (Nat.le_of_ble_eq_true rfl) rfl dX6_make_58 (fun σ22 H locs eσ22 h => ?_)
              refine lv_aload_n S.1 S.2.1 dX6_make_61 rfl (lv_at hl 1 rfl) ?_
              refine lv_lload_n S.1 S.2.1 dX6_make_62 rfl (lv_at hl 2 rfl) ?_
              refine cv_pl (ci := 6) (C := RX6) (T := TX6) (N := 18) (x := pw) S K h 49 rfl hinX6 rfl rfl 4 cv_pok_X6_4 hf_134 rfl (Nat.le_of_ble_eq_true rfl) rfl dX6_make_63 (fun σ23 H locs eσ23 h => ?_)
              refine lv_aload_n S.1 S.2.1 dX6_make_66 rfl (lv_at hl 1 rfl) ?_
              refine lv_iload_n S.1 S.2.1 dX6_make_67 rfl (lv_at hl 3 rfl) ?_
              refine cv_pf (ci := 6) (C := RX6) (T := TX6) (N := 18) (x := sa) S K h 49 rfl hinX6 rfl rfl 5 cv_pok_X6_5 hf_89 rfl rfl rfl (Nat.le_of_ble_eq_true rfl) rfl dX6_make_68 (fun σ24 H locs eσ24 h => ?_)
              refine lv_aload_n S.1 S.2.1 dX6_make_71 rfl (lv_at hl 1 rfl) ?_
              refine lv_iload S.1 S.2.1 dX6_make_72 (lv_at hl 4 rfl) ?_
              refine cv_pf (ci := 6) (C := RX6) (T := TX6) (N := 18) (x := (nI rd)) S K h 49 rfl hinX6 rfl rfl 6 cv_pok_X6_6 hf_92 rfl rfl rfl (Nat.le_of_ble_eq_true rfl) rfl dX6_make_74 (fun σ25 H locs eσ25 h => ?_)
              refine lv_aload_n S.1 S.2.1 dX6_make_77 rfl (lv_at hl 1 rfl) ?_
              refine lv_iconst (v := 0) S.1 S.2.1 dX6_make_78 (by decide) ?_
              refine cv_pf (ci := 6) (C := RX6) (T := TX6) (N := 18) (x := 0) S K h 49 rfl hinX6 rfl rfl 7 cv_pok_X6_7 hf_141 rfl rfl rfl (Nat.le_of_ble_eq_true rfl) rfl dX6_make_79 (fun σ26 H locs eσ26 h => ?_)
              refine lv_aload_n S.1 S.2.1 dX6_make_82 rfl (lv_at hl 1 rfl) ?_
              refine lv_iconst (v := 0) S.1 S.2.1 dX6_make_83 (by decide) ?_
              refine cv_pf (ci := 6) (C := RX6) (T := TX6) (N := 18) (x := 0) S K h 49 rfl hinX6 rfl rfl 8 cv_pok_X6_8 hf_78 rfl rfl rfl (Nat.le_of_ble_eq_true rfl) rfl dX6_make_84 (fun σ27 H locs eσ27 h => ?_)
              refine lv_aload_n S.1 S.2.1 dX6_make_87 rfl (lv_at hl 1 rfl) ?_
              refine lv_iload S.1 S.2.1 dX6_make_88 (lv_at hl 5 rfl) ?_
              have hf : md_F σ σ27 ∧ σ27.1 50 = τ.1 50 ∧ σ27.2.2.1 49 0 = 0 ∧ σ27.2.2.2 49 3 = pw ∧ σ27.2.2.2 49 4 = pw ∧ σ27.2.2.1 49 5 = sa ∧ σ27.2.2.1 49 6 = nI rd ∧ σ27.2.2.1 49 7 = 0 ∧ σ27.2.2.1 49 8 = nI 0 := by
                rw [eσ27, eσ26, eσ25, eσ24, eσ23, eσ22]
                have hm0 : md_F σ τ := fun k hk => ⟨by rw [g1 k (by omega), eσ19]; rfl, by rw [g2, eσ19]; rfl, by rw [g2, eσ19]; exact (md_uF k hk).2.2.1, by rw [g2, eσ19]; rfl⟩
                refine ⟨(((((hm0.trans md_uG).trans md_uG).trans md_uF).trans md_uF).trans md_uF).trans md_uF, rfl, ?_, ?_, ?_, ?_, ?_, ?_, ?_⟩
                · simp only [cv_F3, cv_G3, if_true]; simp [g2, eσ19, cv_F3]
                all_goals simp [cv_F3, cv_F4, cv_G4, cv_G3, nI_0]
              have hz : by_R (σ27.1 50) (fun _ => 0) 600 := fun j hj => ⟨by rw [hf.2.1]; exact g3 j hj, (by show 0 < 256; decide)⟩
              have hR : em_R σ27 0 (fun _ => 0) (fun _ => 0) (fun _ _ => 0) := ⟨hf.2.2.2.2.2.2.2.2, by decide, fun i hi => absurd hi (Nat.not_lt_zero i)⟩
              refine cv_calli (ci := 6) (C := RX6) (T := TX6) (N := 18) S K h hl.1 rfl rfl rfl (m_saved l E σ27 (fun _ => 0) hz pw pw sa 0 rd 0 (fun _ => 0) (fun _ => 0) (fun _ _ => 0) hrd40 hf.2.2.2.1 hf.2.2.2.2.1 hf.2.2.2.2.2.1 hf.2.2.2.2.2.2.1 hf.2.2.2.2.2.2.2.1 hR q hq) (cwV 1 S.2.2.2.2 gX6_make_X6_saved rfl rfl rfl (by decide +kernel) ⟨Nat.le_of_ble_eq_true rfl, Nat.le_of_ble_eq_true rfl⟩) rfl rfl (Nat.le_of_ble_eq_true rfl) ⟨Nat.zero_le _, Nat.zero_le _⟩ dX6_make_90 (fun rs σ28 H locs hsv h => ?_)
              obtain ⟨v1, ⟨pl, ⟨r0, hr0, hpl⟩, v2⟩, v3⟩ := hsv
              have hp0 : pl = 0 := by
                rw [hpl]
                rcases hr0 with z | z | z
                · exact absurd z.2.1 (gd_zero pw rfl)
                · exact absurd z.2.1 (gd_zero pw rfl)
                · rw [z.1]; rfl
              subst hp0
              have hF := v1.2.2.1
              have hG := v1.2.2.2
              refine cv_zret S hr (v3.elim (fun z => Or.inr z.2.1) (fun z => Or.inl z.2.1)) hlk hsz h (Or.inr ⟨rd, q, hrd1, hrd40, rfl, hq, rfl, ?_, hf.1.trans (md_sv v1), v2, ?_, ?_⟩) dX6_make_93
              · rw [hF 49 0 (Or.inr (by decide))]; exact hf.2.2.1
              · rw [hF 49 8 (Or.inr (by decide))]; exact hf.2.2.2.2.2.2.2.2
              · rcases v3 with ⟨z1, z2, z3, z4, z5⟩ | ⟨z1, z2, z3⟩
                · exact Or.inl ⟨z1, z2, z3, z4, z5, by rw [hG 49 3 (Or.inr (by decide))]; exact hf.2.2.2.1, by rw [hF 49 5 (Or.inr (by decide))]; exact hf.2.2.2.2.2.1, by rw [hF 49 6 (Or.inr (by decide))]; exact hf.2.2.2.2.2.2.1⟩
                · exact Or.inr ⟨z1, z2, z3⟩
            · exact absurd (Int32.le_refl _) d1
        · exact absurd c20 (by decide)
  · subst q1
    refine lv_if_eq (tgt := 18) S.1 S.2.1 dX6_make_6 (by decide) (fun c29 => ?_) (fun c29 => ?_)
    · refine lv_iconst (v := 1) S.1 S.2.1 dX6_make_18 (by decide) ?_
      refine cv_pf (ci := 6) (C := RX6) (T := TX6) (N := 18) (x := 1) S K h 49 rfl hinX6 rfl rfl 0 cv_pok_X6_0 hf_38 rfl rfl rfl (Nat.le_of_ble_eq_true rfl) rfl dX6_make_19 (fun σ30 H locs eσ30 h => ?_)
      refine lv_aload_n S.1 S.2.1 dX6_make_22 rfl (lv_at hl 0 rfl) ?_
      refine cv_gf (ci := 6) (C := RX6) (T := TX6) (N := 18) (v := .int (σ30.2.2.1 49 0)) S K h 49 rfl hinX6 rfl rfl 0 (by decide) hf_38 rfl rfl dX6_make_23 ?_
      refine cv_rei (show (σ30.2.2.1 49 0) = 1 from by rw [eσ30, cv_F3, if_pos rfl, if_pos rfl]) ?_
      refine lv_if_le (tgt := 31) S.1 S.2.1 dX6_make_26 (by decide) (fun c31 => ?_) (fun c31 => ?_)
      · exact absurd c31 (by decide)
      · refine lv_iconst (v := 0) S.1 S.2.1 dX6_make_29 (by decide) ?_
        exact cv_zret S hr (by decide) hlk hsz h (Or.inl ⟨fun z => q2 z.1, eσ30⟩) dX6_make_30
    · exact absurd c29 (by decide)

set_option maxHeartbeats 4000000 in
set_option maxRecDepth 100000 in
theorem m_open (l : Launch) (E : cv_E) (σ : cv_S) (dv : Nat → Nat) (hdv : by_R (σ.1 50) dv 600) (pw : Int64) : cv_Mi l E yX6_open wsX6_open (cv_R 9) [.ref (E.2.1 49), .long pw] σ (fun r τ => opM σ dv pw r τ) := by
  intro sz
  refine cv_in (ws := wsX6_open) (cc := cX6_open) (maxL := 7) (ret := (some .int)) (own := RX6) rfl (by decide) rfl (Nat.le_of_ble_eq_true rfl) ?_
  intro p e s m below meth c S K hr hlk hsz h ls hl
  have hl : lv_has ls 7 [(0, .ref (E.2.1 49)), (1, .long pw)] := hl
  have hinX6 : ∀ w ∈ u_ws RX6 TX6 18, w ∈ wsX6_open := by decide +kernel
  have hf_13 := S.2.2.2.2 (.fieldLink RX6 13 "CrashVaultModel" "names" "[J") (by decide +kernel)
  have hf_134 := S.2.2.2.2 (.fieldLink RX6 134 "CrashVaultModel" "known" "J") (by decide +kernel)
  have hf_141 := S.2.2.2.2 (.fieldLink RX6 141 "CrashVaultModel" "serial" "I") (by decide +kernel)
  have hf_147 := S.2.2.2.2 (.fieldLink RX6 147 "CrashVaultModel" "open" "Z") (by decide +kernel)
  have hf_17 := S.2.2.2.2 (.fieldLink RX6 17 "CrashVaultModel" "olds" "[I") (by decide +kernel)
  have hf_20 := S.2.2.2.2 (.fieldLink RX6 20 "CrashVaultModel" "values" "[J") (by decide +kernel)
  have hf_35 := S.2.2.2.2 (.fieldLink RX6 35 "CrashVaultModel" "file" "[I") (by decide +kernel)
  have hf_38 := S.2.2.2.2 (.fieldLink RX6 38 "CrashVaultModel" "thrown" "I") (by decide +kernel)
  have hf_78 := S.2.2.2.2 (.fieldLink RX6 78 "CrashVaultModel" "entries" "I") (by decide +kernel)
  have hf_85 := S.2.2.2.2 (.fieldLink RX6 85 "CrashVaultModel" "password" "J") (by decide +kernel)
  have hf_89 := S.2.2.2.2 (.fieldLink RX6 89 "CrashVaultModel" "salt" "I") (by decide +kernel)
  have hf_92 := S.2.2.2.2 (.fieldLink RX6 92 "CrashVaultModel" "rounds" "I") (by decide +kernel)
  refine lv_aload_n S.1 S.2.1 dX6_open_0 rfl (lv_at hl 0 rfl) ?_
  refine lv_lload_n S.1 S.2.1 dX6_open_1 rfl (lv_at hl 1 rfl) ?_
  refine cv_calli (ci := 6) (C := RX6) (T := TX6) (N := 18) S K h hl.1 rfl rfl rfl (m_newest l E σ dv (fun q => dv (300 + q)) (fun j hj => hdv j (by omega)) (fun j hj => hdv (300 + j) (by omega)) pw) (cwV 1 S.2.2.2.2 gX6_open_X6_newest rfl rfl rfl (by decide +kernel) ⟨Nat.le_of_ble_eq_true rfl, Nat.le_of_ble_eq_true rfl⟩) rfl rfl (Nat.le_of_ble_eq_true rfl) ⟨Nat.zero_le _, Nat.zero_le _⟩ dX6_open_2 (fun rn σ32 H locs hnw h => ?_)
  have key : ∀ (sl : Nat) (bv : Nat → Nat) (H : Heap) (locs : List Loc) (ls : Array Slot), sl ≤ 1 → (∀ j, j < 300 → σ.1 50 (300 * sl + j) = nI (bv j) ∧ bv j < 256) → gd bv pw → (∀ r τ, opG σ bv pw r τ → opM σ dv pw r τ) → cv_H E (cv_uF σ32 49 0 0) s H locs → lv_has ls 7 [(3, .int (nI sl)), (0, .ref (E.2.1 49)), (1, .long pw)] → W p l e (cv_R 9) s m ([.ref (E.2.1 49), .long pw] : List Value).toArray below meth c H locs 0 0 (MQ below (va_Qi (fun r τ => opM σ dv pw r τ) (cv_B E) (cv_A E sz)) ([.ref (E.2.1 49), .long pw] : List Value).toArray s 0 0 (cv_A E sz)) (F0 m 28 ls []) := by
    intro sl bv H locs ls hsl hbv hgd hfin h hl
    refine lv_aload_n S.1 S.2.1 dX6_open_28 rfl (lv_at hl 1 rfl) ?_
    refine lv_iload_n S.1 S.2.1 dX6_open_29 rfl (lv_at hl 0 rfl) ?_
    refine lv_lload_n S.1 S.2.1 dX6_open_30 rfl (lv_at hl 2 rfl) ?_
    refine cv_calli (ci := 6) (C := RX6) (T := TX6) (N := 18) S K h hl.1 rfl rfl rfl (m_take l E (cv_uF σ32 49 0 0) sl hsl bv (fun j hj => by show σ32.1 50 _ = _ ∧ _; rw [hnw.1.1 50 (by decide)]; exact hbv j hj) pw) (cwV 2 S.2.2.2.2 gX6_open_X6_take rfl rfl rfl (by decide +kernel) ⟨Nat.le_of_ble_eq_true rfl, Nat.le_of_ble_eq_true rfl⟩) rfl rfl (Nat.le_of_ble_eq_true rfl) ⟨Nat.zero_le _, Nat.zero_le _⟩ dX6_open_31 (fun rt σ33 H locs ht h => ?_)
    have hB := (ht.2.2.resolve_right (fun z => z.2 hgd)).2.2
    have hb21 := ht.2.1
    obtain ⟨p1_, p2_, p3_, p4_⟩ := hgd.2.2
    have hen : sn bv + 8 ≤ 300 := hgd.1.2.2.2.2
    refine lv_pop S.1 S.2.1 dX6_open_34 rfl ?_
    refine lv_aload_n S.1 S.2.1 dX6_open_35 rfl (lv_at hl 1 rfl) ?_
    refine lv_lload_n S.1 S.2.1 dX6_open_36 rfl (lv_at hl 2 rfl) ?_
    refine cv_pl (ci := 6) (C := RX6) (T := TX6) (N := 18) (x := pw) S K h 49 rfl hinX6 rfl rfl 3 cv_pok_X6_3 hf_85 rfl (Nat.le_of_ble_eq_true rfl) rfl dX6_open_37 (fun σ34 H locs eσ34 h => ?_)
    refine lv_aload_n S.1 S.2.1 dX6_open_40 rfl (lv_at hl 1 rfl) ?_
    refine lv_lload_n S.1 S.2.1 dX6_open_41 rfl (lv_at hl 2 rfl) ?_
    refine cv_pl (ci := 6) (C := RX6) (T := TX6) (N := 18) (x := pw) S K h 49 rfl hinX6 rfl rfl 4 cv_pok_X6_4 hf_134 rfl (Nat.le_of_ble_eq_true rfl) rfl dX6_open_42 (fun σ35 H locs eσ35 h => ?_)
    refine lv_aload_n S.1 S.2.1 dX6_open_45 rfl (lv_at hl 1 rfl) ?_
    refine lv_aload_n S.1 S.2.1 dX6_open_46 rfl (lv_at hl 1 rfl) ?_
    refine lv_iconst (v := 2) S.1 S.2.1 dX6_open_47 (by decide) ?_
    have f4 : σ35.1 = σ33.1 := by rw [eσ35, eσ34]; rfl
    refine cv_calli (ci := 6) (C := RX6) (T := TX6) (N := 18) S K h hl.1 rfl rfl rfl (m_intAt l E σ35 bv 21 (by decide) (by rw [f4]; exact hb21) 2 (by decide)) (cwV 1 S.2.2.2.2 gX6_open_X6_intAt rfl rfl rfl (by decide +kernel) ⟨Nat.le_of_ble_eq_true rfl, Nat.le_of_ble_eq_true rfl⟩) rfl rfl (Nat.le_of_ble_eq_true rfl) ⟨Nat.zero_le _, Nat.zero_le _⟩ dX6_open_48 (fun n1 σ36 H locs ⟨hi1, hs9⟩ h => ?_)
    rw [hs9] at h
    subst hi1
    refine cv_pf (ci := 6) (C := RX6) (T := TX6) (N := 18) (x := (nI (nv bv 2 4))) S K h 49 rfl hinX6 rfl rfl 7 cv_pok_X6_7 hf_141 rfl rfl rfl (Nat.le_of_ble_eq_true rfl) rfl dX6_open_51 (fun σ37 H locs eσ37 h => ?_)
    refine lv_aload_n S.1 S.2.1 dX6_open_54 rfl (lv_at hl 1 rfl) ?_
    refine lv_aload_n S.1 S.2.1 dX6_open_55 rfl (lv_at hl 1 rfl) ?_
    refine lv_bipush (v := 6) S.1 S.2.1 dX6_open_56 (by decide) ?_
    have f5 : σ37.1 = σ33.1 := by rw [eσ37]; exact f4
    refine cv_calli (ci := 6) (C := RX6) (T := TX6) (N := 18) S K h hl.1 rfl rfl rfl (m_intAt l E σ37 bv 21 (by decide) (by rw [f5]; exact hb21) 6 (by decide)) (cwV 1 S.2.2.2.2 gX6_open_X6_intAt rfl rfl rfl (by decide +kernel) ⟨Nat.le_of_ble_eq_true rfl, Nat.le_of_ble_eq_true rfl⟩) rfl rfl (Nat.le_of_ble_eq_true rfl) ⟨Nat.zero_le _, Nat.zero_le _⟩ dX6_open_58 (fun n2 σ38 H locs ⟨hi2, hs9⟩ h => ?_)
    rw [hs9] at h
    subst hi2
    refine cv_pf (ci := 6) (C := RX6) (T := TX6) (N := 18) (x := (nI (nv bv 6 4))) S K h 49 rfl hinX6 rfl rfl 5 cv_pok_X6_5 hf_89 rfl rfl rfl (Nat.le_of_ble_eq_true rfl) rfl dX6_open_61 (fun σ39 H locs eσ39 h => ?_)
    have f6 : σ39.1 = σ33.1 := by rw [eσ39]; exact f5
    refine lv_aload_n S.1 S.2.1 dX6_open_64 rfl (lv_at hl 1 rfl) ?_
    refine lv_aload_n S.1 S.2.1 dX6_open_65 rfl (lv_at hl 1 rfl) ?_
    refine cv_gf (ci := 6) (C := RX6) (T := TX6) (N := 18) (v := .ref (E.2.1 58)) S K h 49 rfl hinX6 rfl rfl 16 (by decide) hf_35 rfl rfl dX6_open_66 ?_
    refine lv_bipush (v := 10) S.1 S.2.1 dX6_open_69 (by decide) ?_
    refine cv_iald S K h 58 rfl (n := 300) rfl 10 rfl (by decide) dX6_open_71 ?_
    refine cv_rei (show (σ39.1 58 10) = nI (bv 10) from by rw [f6]; exact (hb21 10 (by decide)).1) ?_
    refine cv_pf (ci := 6) (C := RX6) (T := TX6) (N := 18) (x := (nI (bv 10))) S K h 49 rfl hinX6 rfl rfl 6 cv_pok_X6_6 hf_92 rfl rfl rfl (Nat.le_of_ble_eq_true rfl) rfl dX6_open_72 (fun σ40 H locs eσ40 h => ?_)
    refine lv_aload_n S.1 S.2.1 dX6_open_75 rfl (lv_at hl 1 rfl) ?_
    refine lv_aload_n S.1 S.2.1 dX6_open_76 rfl (lv_at hl 1 rfl) ?_
    refine cv_gf (ci := 6) (C := RX6) (T := TX6) (N := 18) (v := .ref (E.2.1 58)) S K h 49 rfl hinX6 rfl rfl 16 (by decide) hf_35 rfl rfl dX6_open_77 ?_
    refine lv_bipush (v := 21) S.1 S.2.1 dX6_open_80 (by decide) ?_
    refine cv_iald S K h 58 rfl (n := 300) rfl 21 rfl (by decide) dX6_open_82 ?_
    refine cv_rei (show (σ40.1 58 21) = nI ((sp bv pw) 21) from by rw [eσ40, cv_F1, f6]; exact (hB 21 (by decide)).1) ?_
    refine cv_pf (ci := 6) (C := RX6) (T := TX6) (N := 18) (x := (nI ((sp bv pw) 21))) S K h 49 rfl hinX6 rfl rfl 8 cv_pok_X6_8 hf_78 rfl rfl rfl (Nat.le_of_ble_eq_true rfl) rfl dX6_open_83 (fun σ41 H locs eσ41 h => ?_)
    have hf : md_F σ σ41 ∧ σ41.1 = σ33.1 ∧ σ41.1 50 = σ.1 50 ∧ σ41.2.2.1 49 0 = 0 ∧ σ41.2.2.2 49 3 = pw ∧ σ41.2.2.2 49 4 = pw ∧ σ41.2.2.1 49 7 = nI (nv bv 2 4) ∧ σ41.2.2.1 49 5 = nI (nv bv 6 4) ∧ σ41.2.2.1 49 6 = nI (bv 10) ∧ σ41.2.2.1 49 8 = nI ((sp bv pw) 21) := by
      have hm0 : md_F σ σ33 := ((md_fr hnw.1 (by decide)).trans md_uF).trans (md_fr ht.1 (by decide))
      have h50 : σ33.1 50 = σ.1 50 := (ht.1.1 50 (by decide)).trans (hnw.1.1 50 (by decide))
      have h0 : σ33.2.2.1 49 0 = 0 := by rw [ht.1.2, cv_F3, if_pos rfl, if_pos rfl]
      rw [eσ41, eσ40, eσ39, eσ37, eσ35, eσ34]
      refine ⟨(((((hm0.trans md_uG).trans md_uG).trans md_uF).trans md_uF).trans md_uF).trans md_uF, rfl, h50, ?_, ?_, ?_, ?_, ?_, ?_, ?_⟩
      · simp only [cv_F3, cv_G3]; simp [h0]
      all_goals simp [cv_F3, cv_F4, cv_G4, cv_G3]
    refine lv_bipush (v := 22) S.1 S.2.1 dX6_open_86 (by decide) ?_
    refine lv_istore (lv' := [(4, .int 22), (3, .int (nI sl)), (0, .ref (E.2.1 49)), (1, .long pw)]) S.1 S.2.1 dX6_open_88 hl (by decide) rfl (fun ls hl => ?_)
    refine lv_iconst (v := 0) S.1 S.2.1 dX6_open_90 (by decide) ?_
    refine lv_istore (lv' := [(5, .int 0), (4, .int 22), (3, .int (nI sl)), (0, .ref (E.2.1 49)), (1, .long pw)]) S.1 S.2.1 dX6_open_91 hl (by decide) rfl (fun ls hl => ?_)
    refine cv_loop (α := Unit) (nL := 7) ((sp bv pw) 21) (fun i a τ => (∀ k, k ≠ 52 → τ.1 k = σ41.1 k) ∧ (∀ k, k ≠ 51 → k ≠ 53 → τ.2.1 k = σ41.2.1 k) ∧ τ.2.2 = σ41.2.2 ∧ ∀ j, j < i → τ.2.1 51 j = pN (sp bv pw) j ∧ τ.1 52 j = nI (pO (sp bv pw) j) ∧ ∀ k, k ≤ pO (sp bv pw) j → τ.2.1 53 (3 * j + k) = pV (sp bv pw) j k) (fun i a => [(5, .int (nI i)), (4, .int (nI (ps (sp bv pw) i))), (3, .int (nI sl)), (0, .ref (E.2.1 49)), (1, .long pw)]) ?_ ?_ 0 () σ41 _ _ _ (by omega) (⟨fun _ _ => rfl, fun _ _ _ => rfl, rfl, fun j hj => absurd hj (Nat.not_lt_zero j)⟩) h hl
    · intro i a τ H locs ls hi hI h hl ih
      have hl : lv_has ls 7 [(5, .int (nI i)), (4, .int (nI (ps (sp bv pw) i))), (3, .int (nI sl)), (0, .ref (E.2.1 49)), (1, .long pw)] := hl
      obtain ⟨g1, g2, g3, g4⟩ := hI
      have hok := pg_ok hgd.2.2 hi
      have hO2 : pO (sp bv pw) i ≤ 2 := hok.1.2.1
      have hps : ps (sp bv pw) i + 17 + 8 * pO (sp bv pw) i ≤ sn bv := hok.2
      have tb : by_R (τ.1 58) (sp bv pw) 300 := by rw [g1 58 (by decide), hf.2.1]; exact hB
      refine lv_iload S.1 S.2.1 dX6_open_93 (lv_at hl 0 rfl) ?_
      refine lv_aload_n S.1 S.2.1 dX6_open_95 rfl (lv_at hl 3 rfl) ?_
      refine cv_gf (ci := 6) (C := RX6) (T := TX6) (N := 18) (v := .int (τ.2.2.1 49 8)) S K h 49 rfl hinX6 rfl rfl 8 (by decide) hf_78 rfl rfl dX6_open_96 ?_
      refine cv_rei (show (τ.2.2.1 49 8) = nI ((sp bv pw) 21) from by rw [g3]; exact hf.2.2.2.2.2.2.2.2.2) ?_
      refine lv_icmp_ge (tgt := 191) S.1 S.2.1 dX6_open_99 (by decide) (fun d1 => ?_) (fun d1 => ?_)
      · exact absurd d1 (nI_ge hi (by omega))
      · refine lv_aload_n S.1 S.2.1 dX6_open_102 rfl (lv_at hl 3 rfl) ?_
        refine cv_gf (ci := 6) (C := RX6) (T := TX6) (N := 18) (v := .ref (E.2.1 51)) S K h 49 rfl hinX6 rfl rfl 9 (by decide) hf_13 rfl rfl dX6_open_103 ?_
        refine lv_iload S.1 S.2.1 dX6_open_106 (lv_at hl 0 rfl) ?_
        refine lv_aload_n S.1 S.2.1 dX6_open_108 rfl (lv_at hl 3 rfl) ?_
        refine lv_iload S.1 S.2.1 dX6_open_109 (lv_at hl 1 rfl) ?_
        refine cv_calll (ci := 6) (C := RX6) (T := TX6) (N := 18) S K h hl.1 rfl rfl rfl (m_longAt l E τ (sp bv pw) 300 (Nat.le_refl _) tb (ps (sp bv pw) i) (by omega)) (cwV 1 S.2.2.2.2 gX6_open_X6_longAt rfl rfl rfl (by decide +kernel) ⟨Nat.le_of_ble_eq_true rfl, Nat.le_of_ble_eq_true rfl⟩) rfl rfl (Nat.le_of_ble_eq_true rfl) ⟨Nat.zero_le _, Nat.zero_le _⟩ dX6_open_111 (fun l1 σ42 H locs ⟨hl1, hs9⟩ h => ?_)
        rw [hs9] at h
        subst hl1
        refine cv_last (x := (lN (nv (sp bv pw) (ps (sp bv pw) i) 8))) S K h 51 rfl (n := 8) rfl i rfl (by omega) dX6_open_114 (fun σ43 H locs eσ43 h => ?_)
        refine lv_aload_n S.1 S.2.1 dX6_open_115 rfl (lv_at hl 3 rfl) ?_
        refine cv_gf (ci := 6) (C := RX6) (T := TX6) (N := 18) (v := .ref (E.2.1 52)) S K h 49 rfl hinX6 rfl rfl 10 (by decide) hf_17 rfl rfl dX6_open_116 ?_
        refine lv_iload S.1 S.2.1 dX6_open_119 (lv_at hl 0 rfl) ?_
        refine lv_aload_n S.1 S.2.1 dX6_open_121 rfl (lv_at hl 3 rfl) ?_
        refine cv_gf (ci := 6) (C := RX6) (T := TX6) (N := 18) (v := .ref (E.2.1 58)) S K h 49 rfl hinX6 rfl rfl 16 (by decide) hf_35 rfl rfl dX6_open_122 ?_
        refine lv_iload S.1 S.2.1 dX6_open_125 (lv_at hl 1 rfl) ?_
        refine lv_bipush (v := 8) S.1 S.2.1 dX6_open_127 (by decide) ?_
        refine lv_iadd S.1 S.2.1 dX6_open_129 ?_
        refine cv_iald S K h 58 rfl (n := 300) rfl (ps (sp bv pw) i + 8) (nI_add _ 8) (by omega) dX6_open_130 ?_
        refine cv_rei (show (σ43.1 58 (ps (sp bv pw) i + 8)) = nI (pO (sp bv pw) i) from by rw [eσ43, cv_J1]; exact (tb _ (by omega)).1) ?_
        refine cv_iast (x := (nI (pO (sp bv pw) i))) S K h 52 rfl (n := 8) rfl i rfl (by omega) dX6_open_131 (fun σ44 H locs eσ44 h => ?_)
        refine lv_iload S.1 S.2.1 dX6_open_132 (lv_at hl 1 rfl) ?_
        refine lv_bipush (v := 9) S.1 S.2.1 dX6_open_134 (by decide) ?_
        refine lv_iadd S.1 S.2.1 dX6_open_136 ?_
        refine cv_rei (show (((nI (ps (sp bv pw) i))) + 9) = nI (ps (sp bv pw) i + 9 + 8 * 0) from nI_add _ 9) ?_
        refine lv_istore (lv' := [(4, .int (nI (ps (sp bv pw) i + 9 + 8 * 0))), (5, .int (nI i)), (3, .int (nI sl)), (0, .ref (E.2.1 49)), (1, .long pw)]) S.1 S.2.1 dX6_open_137 hl (by decide) rfl (fun ls hl => ?_)
        refine lv_iconst (v := 0) S.1 S.2.1 dX6_open_139 (by decide) ?_
        refine lv_istore (lv' := [(6, .int 0), (4, .int (nI (ps (sp bv pw) i + 9 + 8 * 0))), (5, .int (nI i)), (3, .int (nI sl)), (0, .ref (E.2.1 49)), (1, .long pw)]) S.1 S.2.1 dX6_open_140 hl (by decide) rfl (fun ls hl => ?_)
        have hO3 : ∀ j, j < i → pO (sp bv pw) j ≤ 2 := fun j hj => (pg_ok hgd.2.2 (by omega)).1.2.1
        have hst2 : (∀ k, k ≠ 52 → σ44.1 k = σ41.1 k) ∧ (∀ k, k ≠ 51 → k ≠ 53 → σ44.2.1 k = σ41.2.1 k) ∧ σ44.2.2 = σ41.2.2 ∧ (∀ j, j < i → σ44.2.1 51 j = pN (sp bv pw) j ∧ σ44.1 52 j = nI (pO (sp bv pw) j) ∧ ∀ k, k ≤ pO (sp bv pw) j → σ44.2.1 53 (3 * j + k) = pV (sp bv pw) j k) ∧ σ44.2.1 51 i = pN (sp bv pw) i ∧ σ44.1 52 i = nI (pO (sp bv pw) i) ∧ ∀ k, k < 0 → σ44.2.1 53 (3 * i + k) = pV (sp bv pw) i k := by
          have r1 : ∀ q, σ44.1 q = if q = 52 then upd (τ.1 52) i (nI (pO (sp bv pw) i)) else τ.1 q := fun q => by rw [eσ44, eσ43]; rfl
          have r3 : ∀ q, σ44.2.1 q = if q = 51 then vp_updL (τ.2.1 51) i (pN (sp bv pw) i) else τ.2.1 q := fun q => by rw [eσ44, eσ43]; rfl
          refine ⟨fun k hk => by rw [r1, if_neg hk]; exact g1 k hk, fun k h1 h2 => by rw [r3, if_neg h1]; exact g2 k h1 h2, by rw [eσ44, eσ43]; exact g3, fun j hj => ?_, by rw [r3, if_pos rfl, pk_uLs], by rw [r1, if_pos rfl, pk_us], fun k hk => absurd hk (Nat.not_lt_zero k)⟩
          obtain ⟨m1, m2, m3⟩ := g4 j hj
          exact ⟨by rw [r3, if_pos rfl, pk_uLn (by omega)]; exact m1, by rw [r1, if_pos rfl, pk_un (by omega)]; exact m2, fun k hk => by rw [r3, if_neg (by decide)]; exact m3 k hk⟩
        refine cv_loop (α := Unit) (nL := 7) (pO (sp bv pw) i + 1) (fun jj _ τ => (∀ k, k ≠ 52 → τ.1 k = σ41.1 k) ∧ (∀ k, k ≠ 51 → k ≠ 53 → τ.2.1 k = σ41.2.1 k) ∧ τ.2.2 = σ41.2.2 ∧ (∀ j, j < i → τ.2.1 51 j = pN (sp bv pw) j ∧ τ.1 52 j = nI (pO (sp bv pw) j) ∧ ∀ k, k ≤ pO (sp bv pw) j → τ.2.1 53 (3 * j + k) = pV (sp bv pw) j k) ∧ τ.2.1 51 i = pN (sp bv pw) i ∧ τ.1 52 i = nI (pO (sp bv pw) i) ∧ ∀ k, k < jj → τ.2.1 53 (3 * i + k) = pV (sp bv pw) i k) (fun j _ => [(6, .int (nI j)), (4, .int (nI (ps (sp bv pw) i + 9 + 8 * j))), (5, .int (nI i)), (3, .int (nI sl)), (0, .ref (E.2.1 49)), (1, .long pw)]) ?_ ?_ 0 () σ44 _ _ _ (by omega) hst2 h (lv_sub hl [0, 1, 2, 3, 4, 5] rfl)
        · intro j _ ρ H locs ls hj hJ h hl jh
          have hl : lv_has ls 7 [(6, .int (nI j)), (4, .int (nI (ps (sp bv pw) i + 9 + 8 * j))), (5, .int (nI i)), (3, .int (nI sl)), (0, .ref (E.2.1 49)), (1, .long pw)] := hl
          obtain ⟨j1, j2, j3, j4, j5, j6, j7⟩ := hJ
          have tb2 : by_R (ρ.1 58) (sp bv pw) 300 := by rw [j1 58 (by decide), hf.2.1]; exact hB
          refine lv_iload S.1 S.2.1 dX6_open_142 (lv_at hl 0 rfl) ?_
          refine lv_aload_n S.1 S.2.1 dX6_open_144 rfl (lv_at hl 4 rfl) ?_
          refine cv_gf (ci := 6) (C := RX6) (T := TX6) (N := 18) (v := .ref (E.2.1 52)) S K h 49 rfl hinX6 rfl rfl 10 (by decide) hf_17 rfl rfl dX6_open_145 ?_
          refine lv_iload S.1 S.2.1 dX6_open_148 (lv_at hl 2 rfl) ?_
          refine cv_iald S K h 52 rfl (n := 8) rfl i rfl (by omega) dX6_open_150 ?_
          refine cv_rei (show (ρ.1 52 i) = nI (pO (sp bv pw) i) from j6) ?_
          refine lv_icmp_gt (tgt := 185) S.1 S.2.1 dX6_open_151 (by decide) (fun d2 => ?_) (fun d2 => ?_)
          · exact absurd d2 (nI_nlt (by omega) (by omega))
          · refine lv_aload_n S.1 S.2.1 dX6_open_154 rfl (lv_at hl 4 rfl) ?_
            refine cv_gf (ci := 6) (C := RX6) (T := TX6) (N := 18) (v := .ref (E.2.1 53)) S K h 49 rfl hinX6 rfl rfl 11 (by decide) hf_20 rfl rfl dX6_open_155 ?_
            refine lv_iconst (v := 3) S.1 S.2.1 dX6_open_158 (by decide) ?_
            refine lv_iload S.1 S.2.1 dX6_open_159 (lv_at hl 2 rfl) ?_
            refine lv_imul S.1 S.2.1 dX6_open_161 ?_
            refine cv_rei (show (3 * ((nI i))) = nI (3 * i) from pk_mul 3 i) ?_
            refine lv_iload S.1 S.2.1 dX6_open_162 (lv_at hl 0 rfl) ?_
            refine lv_iadd S.1 S.2.1 dX6_open_164 ?_
            refine cv_rei (show (((nI (3 * i))) + ((nI j))) = nI (3 * i + j) from nI_add _ _) ?_
            refine lv_aload_n S.1 S.2.1 dX6_open_165 rfl (lv_at hl 4 rfl) ?_
            refine lv_iload S.1 S.2.1 dX6_open_166 (lv_at hl 1 rfl) ?_
            refine cv_calll (ci := 6) (C := RX6) (T := TX6) (N := 18) S K h hl.1 rfl rfl rfl (m_longAt l E ρ (sp bv pw) 300 (Nat.le_refl _) tb2 (ps (sp bv pw) i + 9 + 8 * j) (by omega)) (cwV 1 S.2.2.2.2 gX6_open_X6_longAt rfl rfl rfl (by decide +kernel) ⟨Nat.le_of_ble_eq_true rfl, Nat.le_of_ble_eq_true rfl⟩) rfl rfl (Nat.le_of_ble_eq_true rfl) ⟨Nat.zero_le _, Nat.zero_le _⟩ dX6_open_168 (fun l2 σ45 H locs ⟨hl2, hs9⟩ h => ?_)
            rw [hs9] at h
            subst hl2
            refine cv_last (x := (lN (nv (sp bv pw) (ps (sp bv pw) i + 9 + 8 * j) 8))) S K h 53 rfl (n := 24) rfl (3 * i + j) rfl (by omega) dX6_open_171 (fun σ46 H locs eσ46 h => ?_)
            refine lv_iload S.1 S.2.1 dX6_open_172 (lv_at hl 1 rfl) ?_
            refine lv_bipush (v := 8) S.1 S.2.1 dX6_open_174 (by decide) ?_
            refine lv_iadd S.1 S.2.1 dX6_open_176 ?_
            refine cv_rei (show (((nI (ps (sp bv pw) i + 9 + 8 * j))) + 8) = nI (ps (sp bv pw) i + 9 + 8 * (j + 1)) from nI_add _ 8) ?_
            refine lv_istore (lv' := [(4, .int (nI (ps (sp bv pw) i + 9 + 8 * (j + 1)))), (6, .int (nI j)), (5, .int (nI i)), (3, .int (nI sl)), (0, .ref (E.2.1 49)), (1, .long pw)]) S.1 S.2.1 dX6_open_177 hl (by decide) rfl (fun ls hl => ?_)
            obtain ⟨z5, ez5⟩ : ∃ y : Int32, y = ((nI j)) + 1 := ⟨_, rfl⟩
            refine lv_iinc (v := z5) (lv' := [(6, .int z5), (4, .int (nI (ps (sp bv pw) i + 9 + 8 * (j + 1)))), (5, .int (nI i)), (3, .int (nI sl)), (0, .ref (E.2.1 49)), (1, .long pw)]) S.1 S.2.1 dX6_open_179 hl (k := 1) rfl (by rw [ez5]; rfl) (by decide) rfl (fun ls hl => ?_)
            refine lv_goto (tgt := 142) S.1 S.2.1 dX6_open_182 (by decide) ?_
            rw [ez5, nI_1] at hl
            have r3 : ∀ q, σ46.2.1 q = if q = 53 then vp_updL (ρ.2.1 53) (3 * i + j) (pV (sp bv pw) i j) else ρ.2.1 q := fun q => by rw [eσ46]; rfl
            refine jh () σ46 H locs ls ⟨by rw [eσ46]; exact j1, fun k h1 h2 => by rw [r3, if_neg h2]; exact j2 k h1 h2, by rw [eσ46]; exact j3, fun q hq => ?_, by rw [r3, if_neg (by decide)]; exact j5, by rw [eσ46]; exact j6, fun k hk => ?_⟩ h (lv_sub hl [0, 1, 2, 3, 4, 5] rfl)
            · obtain ⟨m1, m2, m3⟩ := j4 q hq
              exact ⟨by rw [r3, if_neg (by decide)]; exact m1, by rw [eσ46]; exact m2, fun k hk => by rw [r3, if_pos rfl, pk_uLn (by have := hO3 q hq; omega)]; exact m3 k hk⟩
            · rw [r3, if_pos rfl]
              by_cases hkj : k = j
              · rw [hkj, pk_uLs]
              · rw [pk_uLn (by omega)]; exact j7 k (by omega)
        · intro _ ρ H locs ls hJ h hl
          have hl : lv_has ls 7 [(6, .int (nI (pO (sp bv pw) i + 1))), (4, .int (nI (ps (sp bv pw) i + 9 + 8 * (pO (sp bv pw) i + 1)))), (5, .int (nI i)), (3, .int (nI sl)), (0, .ref (E.2.1 49)), (1, .long pw)] := hl
          obtain ⟨j1, j2, j3, j4, j5, j6, j7⟩ := hJ
          refine lv_iload S.1 S.2.1 dX6_open_142 (lv_at hl 0 rfl) ?_
          refine lv_aload_n S.1 S.2.1 dX6_open_144 rfl (lv_at hl 4 rfl) ?_
          refine cv_gf (ci := 6) (C := RX6) (T := TX6) (N := 18) (v := .ref (E.2.1 52)) S K h 49 rfl hinX6 rfl rfl 10 (by decide) hf_17 rfl rfl dX6_open_145 ?_
          refine lv_iload S.1 S.2.1 dX6_open_148 (lv_at hl 2 rfl) ?_
          refine cv_iald S K h 52 rfl (n := 8) rfl i rfl (by omega) dX6_open_150 ?_
          refine cv_rei (show (ρ.1 52 i) = nI (pO (sp bv pw) i) from j6) ?_
          refine lv_icmp_gt (tgt := 185) S.1 S.2.1 dX6_open_151 (by decide) (fun d2 => ?_) (fun d2 => ?_)
          · obtain ⟨z4, ez4⟩ : ∃ y : Int32, y = ((nI i)) + 1 := ⟨_, rfl⟩
            refine lv_iinc (v := z4) (lv' := [(5, .int z4), (6, .int (nI (pO (sp bv pw) i + 1))), (4, .int (nI (ps (sp bv pw) i + 9 + 8 * (pO (sp bv pw) i + 1)))), (3, .int (nI sl)), (0, .ref (E.2.1 49)), (1, .long pw)]) S.1 S.2.1 dX6_open_185 hl (k := 2) rfl (by rw [ez4]; rfl) (by decide) rfl (fun ls hl => ?_)
            refine lv_goto (tgt := 93) S.1 S.2.1 dX6_open_188 (by decide) ?_
            rw [ez4, nI_1, show ps (sp bv pw) i + 9 + 8 * (pO (sp bv pw) i + 1) = ps (sp bv pw) (i + 1) from by show _ = ps (sp bv pw) i + 17 + 8 * pO (sp bv pw) i; omega] at hl
            refine ih () ρ H locs ls ⟨j1, j2, j3, fun j hj => ?_⟩ h (lv_sub hl [0, 2, 3, 4, 5] rfl)
            by_cases hji : j = i
            · subst hji; exact ⟨j5, j6, fun k hk => j7 k (by omega)⟩
            · exact j4 j (by omega)
          · exact absurd (nI_lt (Nat.lt_succ_self _) (by omega)) d2
    · intro a τ H locs ls hI h hl
      have hl : lv_has ls 7 [(5, .int (nI ((sp bv pw) 21))), (4, .int (nI (ps (sp bv pw) ((sp bv pw) 21)))), (3, .int (nI sl)), (0, .ref (E.2.1 49)), (1, .long pw)] := hl
      obtain ⟨g1, g2, g3, g4⟩ := hI
      refine lv_iload S.1 S.2.1 dX6_open_93 (lv_at hl 0 rfl) ?_
      refine lv_aload_n S.1 S.2.1 dX6_open_95 rfl (lv_at hl 3 rfl) ?_
      refine cv_gf (ci := 6) (C := RX6) (T := TX6) (N := 18) (v := .int (τ.2.2.1 49 8)) S K h 49 rfl hinX6 rfl rfl 8 (by decide) hf_78 rfl rfl dX6_open_96 ?_
      refine cv_rei (show (τ.2.2.1 49 8) = nI ((sp bv pw) 21) from by rw [g3]; exact hf.2.2.2.2.2.2.2.2.2) ?_
      refine lv_icmp_ge (tgt := 191) S.1 S.2.1 dX6_open_99 (by decide) (fun d1 => ?_) (fun d1 => ?_)
      · refine lv_aload_n S.1 S.2.1 dX6_open_191 rfl (lv_at hl 3 rfl) ?_
        refine lv_iconst (v := 1) S.1 S.2.1 dX6_open_192 (by decide) ?_
        refine cv_pf (ci := 6) (C := RX6) (T := TX6) (N := 18) (x := 1) S K h 49 rfl hinX6 rfl rfl 2 cv_pok_X6_2 hf_147 rfl rfl rfl (Nat.le_of_ble_eq_true rfl) rfl dX6_open_193 (fun σ47 H locs eσ47 h => ?_)
        refine lv_aload_n S.1 S.2.1 dX6_open_196 rfl (lv_at hl 3 rfl) ?_
        refine cv_gf (ci := 6) (C := RX6) (T := TX6) (N := 18) (v := .int (σ47.2.2.1 49 7)) S K h 49 rfl hinX6 rfl rfl 7 (by decide) hf_141 rfl rfl dX6_open_197 ?_
        have hF : ∀ i, i ≠ 2 → σ47.2.2.1 49 i = σ41.2.2.1 49 i := fun i hi => by rw [eσ47, cv_F3, if_pos rfl, if_neg hi, g3]
        have hG : σ47.2.2.2 = σ41.2.2.2 := by rw [eσ47, cv_F4, g3]
        refine cv_iret S hr hlk hsz h (hfin _ _ ⟨?_, ?_, ?_, ?_, ?_, ?_, ?_, ?_, ⟨?_, p2_, fun i hi => ?_⟩, ?_, ?_⟩) dX6_open_200
        · rw [hF 7 (by decide)]; exact hf.2.2.2.2.2.2.1
        · rw [hF 0 (by decide)]; exact hf.2.2.2.1
        · rw [eσ47, cv_F3, if_pos rfl, if_pos rfl]
        · rw [hG]; exact hf.2.2.2.2.1
        · rw [hG]; exact hf.2.2.2.2.2.1
        · rw [hF 7 (by decide)]; exact hf.2.2.2.2.2.2.1
        · rw [hF 5 (by decide)]; exact hf.2.2.2.2.2.2.2.1
        · rw [hF 6 (by decide)]; exact hf.2.2.2.2.2.2.2.2.1
        · rw [hF 8 (by decide)]; exact hf.2.2.2.2.2.2.2.2.2
        · rw [eσ47]; exact ⟨(g4 i hi).1, (g4 i hi).2.1, (pg_ok hgd.2.2 hi).1.2.1, (g4 i hi).2.2⟩
        · rw [eσ47, cv_F1, g1 50 (by decide)]; exact hf.2.2.1
        · rw [eσ47]; exact (hf.1.trans (fun k hk => ⟨g1 k (by omega), g2 k (by omega) (by omega), by rw [g3], by rw [g3]⟩)).trans md_uF
      · exact absurd (Int32.le_refl _) d1
  rcases id hnw.2 with ⟨z1, z2, z3⟩ | ⟨z1, z2, z3⟩ | ⟨z1, z2, z3⟩
  · subst z1
    refine lv_istore_n (lv' := [(3, .int 0), (0, .ref (E.2.1 49)), (1, .long pw)]) S.1 S.2.1 dX6_open_5 rfl hl (by decide) rfl (fun ls hl => ?_)
    refine lv_aload_n S.1 S.2.1 dX6_open_6 rfl (lv_at hl 1 rfl) ?_
    refine lv_iload_n S.1 S.2.1 dX6_open_7 rfl (lv_at hl 0 rfl) ?_
    refine lv_if_ge (tgt := 15) S.1 S.2.1 dX6_open_8 (by decide) (fun c48 => ?_) (fun c48 => ?_)
    · refine lv_iconst (v := 0) S.1 S.2.1 dX6_open_15 (by decide) ?_
      refine cv_pf (ci := 6) (C := RX6) (T := TX6) (N := 18) (x := 0) S K h 49 rfl hinX6 rfl rfl 0 cv_pok_X6_0 hf_38 rfl rfl rfl (Nat.le_of_ble_eq_true rfl) rfl dX6_open_16 (fun σ49 H locs eσ49 h => ?_)
      refine lv_aload_n S.1 S.2.1 dX6_open_19 rfl (lv_at hl 1 rfl) ?_
      refine cv_gf (ci := 6) (C := RX6) (T := TX6) (N := 18) (v := .int (σ49.2.2.1 49 0)) S K h 49 rfl hinX6 rfl rfl 0 (by decide) hf_38 rfl rfl dX6_open_20 ?_
      refine cv_rei (show (σ49.2.2.1 49 0) = 0 from by rw [eσ49, cv_F3, if_pos rfl, if_pos rfl]) ?_
      refine lv_if_le (tgt := 28) S.1 S.2.1 dX6_open_23 (by decide) (fun c50 => ?_) (fun c50 => ?_)
      · rw [eσ49] at h
        exact key 0 dv H locs ls (by decide) (fun j hj => by rw [Nat.mul_zero, Nat.zero_add]; exact hdv j (by omega)) z2 (fun r τ hh => Or.inr (Or.inl ⟨hnw.2, z2, hh⟩)) h (lv_sub hl [0, 1, 2] rfl)
      · exact absurd c50 (by decide)
    · exact absurd c48 (by decide)
  · subst z1
    refine lv_istore_n (lv' := [(3, .int 1), (0, .ref (E.2.1 49)), (1, .long pw)]) S.1 S.2.1 dX6_open_5 rfl hl (by decide) rfl (fun ls hl => ?_)
    refine lv_aload_n S.1 S.2.1 dX6_open_6 rfl (lv_at hl 1 rfl) ?_
    refine lv_iload_n S.1 S.2.1 dX6_open_7 rfl (lv_at hl 0 rfl) ?_
    refine lv_if_ge (tgt := 15) S.1 S.2.1 dX6_open_8 (by decide) (fun c51 => ?_) (fun c51 => ?_)
    · refine lv_iconst (v := 0) S.1 S.2.1 dX6_open_15 (by decide) ?_
      refine cv_pf (ci := 6) (C := RX6) (T := TX6) (N := 18) (x := 0) S K h 49 rfl hinX6 rfl rfl 0 cv_pok_X6_0 hf_38 rfl rfl rfl (Nat.le_of_ble_eq_true rfl) rfl dX6_open_16 (fun σ52 H locs eσ52 h => ?_)
      refine lv_aload_n S.1 S.2.1 dX6_open_19 rfl (lv_at hl 1 rfl) ?_
      refine cv_gf (ci := 6) (C := RX6) (T := TX6) (N := 18) (v := .int (σ52.2.2.1 49 0)) S K h 49 rfl hinX6 rfl rfl 0 (by decide) hf_38 rfl rfl dX6_open_20 ?_
      refine cv_rei (show (σ52.2.2.1 49 0) = 0 from by rw [eσ52, cv_F3, if_pos rfl, if_pos rfl]) ?_
      refine lv_if_le (tgt := 28) S.1 S.2.1 dX6_open_23 (by decide) (fun c53 => ?_) (fun c53 => ?_)
      · rw [eσ52] at h
        exact key 1 (fun q => dv (300 + q)) H locs ls (by decide) (fun j hj => by rw [Nat.mul_one]; exact hdv (300 + j) (by omega)) z2 (fun r τ hh => Or.inr (Or.inr ⟨hnw.2, z2, hh⟩)) h (lv_sub hl [0, 1, 2] rfl)
      · exact absurd c53 (by decide)
    · exact absurd c51 (by decide)
  · subst z1
    refine lv_istore_n (lv' := [(3, .int (-1)), (0, .ref (E.2.1 49)), (1, .long pw)]) S.1 S.2.1 dX6_open_5 rfl hl (by decide) rfl (fun ls hl => ?_)
    refine lv_aload_n S.1 S.2.1 dX6_open_6 rfl (lv_at hl 1 rfl) ?_
    refine lv_iload_n S.1 S.2.1 dX6_open_7 rfl (lv_at hl 0 rfl) ?_
    refine lv_if_ge (tgt := 15) S.1 S.2.1 dX6_open_8 (by decide) (fun c54 => ?_) (fun c54 => ?_)
    · exact absurd c54 (by decide)
    · refine lv_iconst (v := 1) S.1 S.2.1 dX6_open_11 (by decide) ?_
      refine lv_goto (tgt := 16) S.1 S.2.1 dX6_open_12 (by decide) ?_
      refine cv_pf (ci := 6) (C := RX6) (T := TX6) (N := 18) (x := 1) S K h 49 rfl hinX6 rfl rfl 0 cv_pok_X6_0 hf_38 rfl rfl rfl (Nat.le_of_ble_eq_true rfl) rfl dX6_open_16 (fun σ55 H locs eσ55 h => ?_)
      refine lv_aload_n S.1 S.2.1 dX6_open_19 rfl (lv_at hl 1 rfl) ?_
      refine cv_gf (ci := 6) (C := RX6) (T := TX6) (N := 18) (v := .int (σ55.2.2.1 49 0)) S K h 49 rfl hinX6 rfl rfl 0 (by decide) hf_38 rfl rfl dX6_open_20 ?_
      refine cv_rei (show (σ55.2.2.1 49 0) = 1 from by rw [eσ55, cv_F3, if_pos rfl, if_pos rfl]) ?_
      refine lv_if_le (tgt := 28) S.1 S.2.1 dX6_open_23 (by decide) (fun c56 => ?_) (fun c56 => ?_)
      · exact absurd c56 (by decide)
      · refine lv_iconst (v := 0) S.1 S.2.1 dX6_open_26 (by decide) ?_
        exact cv_iret S hr hlk hsz h (Or.inl ⟨z2, z3, σ32, hnw.1, eσ55⟩) dX6_open_27
