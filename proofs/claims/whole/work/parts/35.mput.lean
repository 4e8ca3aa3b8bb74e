/-! 35: the reference: put -/
theorem m1_back : ∀ i, i ≤ 8 → (-1 : Int32) - (-1 - nI i) = nI i := by decide
theorem m1_neg : ∀ i, i ≤ 8 → (-1 : Int32) - nI i < 0 := by decide
/-- where a name is, or would be -/
def fdN (N : Nat → Int64) (cnt : Nat) (nm : Int64) (i : Nat) : Prop := i ≤ cnt ∧ (∀ j, j < i → N j < nm) ∧ (i < cnt → ¬ N i < nm ∧ N i ≠ nm)
def fdY (N : Nat → Int64) (cnt : Nat) (nm : Int64) (i : Nat) : Prop := i < cnt ∧ N i = nm ∧ ∀ j, j < i → N j < nm
/-- what put does, over the reference -/
def puM (σ : cv_S) (cnt : Nat) (N : Nat → Int64) (O : Nat → Nat) (V : Nat → Nat → Int64) (nm xv : Int64) (r : Int32) (τ : cv_S) : Prop :=
  (σ.2.2.1 49 2 = 0 ∧ τ = cv_uF σ 49 0 1) ∨ (σ.2.2.1 49 2 = 1 ∧ nm = 0 ∧ τ = cv_uF σ 49 0 2) ∨ (σ.2.2.1 49 2 = 1 ∧ nm ≠ 0 ∧ cnt = 8 ∧ (∃ a, fdN N cnt nm a) ∧ τ = cv_uF σ 49 0 3) ∨
  (σ.2.2.1 49 2 = 1 ∧ nm ≠ 0 ∧ τ.2.2.1 49 0 = 0 ∧ mp_F σ τ ∧ ((∃ i, fdY N cnt nm i ∧ r = 0 ∧ ((V i 0 = xv ∧ em_R τ cnt N O V) ∨ (V i 0 ≠ xv ∧ em_R τ cnt N (ch_O O i) (ch_V V i xv)))) ∨
    (cnt < 8 ∧ ∃ a, fdN N cnt nm a ∧ r = 1 ∧ em_R τ (cnt + 1) (li_ins N a nm) (li_ins O a 0) (li_ins V a (fun _ => xv)))))
theorem em_uF {σ : cv_S} {cnt : Nat} {N : Nat → Int64} {O : Nat → Nat} {V : Nat → Nat → Int64} {x : Int32} {i : Nat} (h : em_R σ cnt N O V) (hi : i ≠ 8) : em_R (cv_uF σ 49 i x) cnt N O V := ⟨by rw [cv_F3, if_pos rfl, if_neg (by omega)]; exact h.1, h.2⟩
theorem cv_min2b {o : Nat} (h : o ≤ 2) : (o < 2 → nI o + 1 = nI (min (o + 1) 2)) ∧ (¬ o < 2 → (2 : Int32) = nI (min (o + 1) 2)) := by
  rcases (show o = 0 ∨ o = 1 ∨ o = 2 by omega) with rfl | rfl | rfl <;> exact ⟨fun _ => by first | rfl | omega, fun _ => by first | rfl | omega⟩

set_option maxHeartbeats 4000000 in
set_option maxRecDepth 100000 in
theorem m_put (l : Launch) (E : cv_E) (σ : cv_S) (cnt : Nat) (N : Nat → Int64) (O : Nat → Nat) (V : Nat → Nat → Int64) (hc8 : cnt ≤ 8) (hct : σ.2.2.1 49 8 = nI cnt) (hop : σ.2.2.1 49 2 = 0 ∨ σ.2.2.1 49 2 = 1) (hR0 : σ.2.2.1 49 2 = 1 → em_R σ cnt N O V) (nm xv : Int64) : cv_Mi l E yX6_put wsX6_put (cv_R 2) [.ref (E.2.1 49), .long nm, .long xv] σ (fun r τ => puM σ cnt N O V nm xv r τ) := by
  intro sz
  refine cv_in (ws := wsX6_put) (cc := cX6_put) (maxL := 8) (ret := (some .boolean)) (own := RX6) rfl (by decide) rfl (Nat.le_of_ble_eq_true rfl) ?_
  intro p e s m below meth c S K hr hlk hsz h ls hl
  have hl : lv_has ls 8 [(0, .ref (E.2.1 49)), (1, .long nm), (3, .long xv)] := hl
  have hinX6 : ∀ w ∈ u_ws RX6 TX6 18, w ∈ wsX6_put := by decide +kernel
  have hf_13 := S.2.2.2.2 (.fieldLink RX6 13 "CrashVaultModel" "names" "[J") (by decide +kernel)
  have hf_147 := S.2.2.2.2 (.fieldLink RX6 147 "CrashVaultModel" "open" "Z") (by decide +kernel)
  have hf_17 := S.2.2.2.2 (.fieldLink RX6 17 "CrashVaultModel" "olds" "[I") (by decide +kernel)
  have hf_20 := S.2.2.2.2 (.fieldLink RX6 20 "CrashVaultModel" "values" "[J") (by decide +kernel)
  have hf_38 := S.2.2.2.2 (.fieldLink RX6 38 "CrashVaultModel" "thrown" "I") (by decide +kernel)
  have hf_78 := S.2.2.2.2 (.fieldLink RX6 78 "CrashVaultModel" "entries" "I") (by decide +kernel)
  refine lv_aload_n S.1 S.2.1 dX6_put_0 rfl (lv_at hl 0 rfl) ?_
  refine lv_lload_n S.1 S.2.1 dX6_put_1 rfl (lv_at hl 1 rfl) ?_
  refine cv_calli (ci := 6) (C := RX6) (T := TX6) (N := 18) S K h hl.1 rfl rfl rfl (m_find l E σ cnt hc8 hct nm) (cwV 1 S.2.2.2.2 gX6_put_X6_find rfl rfl rfl (by decide +kernel) ⟨Nat.le_of_ble_eq_true rfl, Nat.le_of_ble_eq_true rfl⟩) rfl rfl (Nat.le_of_ble_eq_true rfl) ⟨Nat.zero_le _, Nat.zero_le _⟩ dX6_put_2 (fun rf σ14 H locs ⟨hfd, hs9⟩ h => ?_)
  rw [hs9] at h
  refine lv_istore (lv' := [(5, .int rf), (0, .ref (E.2.1 49)), (1, .long nm), (3, .long xv)]) S.1 S.2.1 dX6_put_5 hl (by decide) rfl (fun ls hl => ?_)
  refine lv_aload_n S.1 S.2.1 dX6_put_7 rfl (lv_at hl 1 rfl) ?_
  refine lv_aload_n S.1 S.2.1 dX6_put_8 rfl (lv_at hl 1 rfl) ?_
  refine cv_gf (ci := 6) (C := RX6) (T := TX6) (N := 18) (v := .int (σ.2.2.1 49 2)) S K h 49 rfl hinX6 rfl rfl 2 (by decide) hf_147 rfl rfl dX6_put_9 ?_
  refine lv_if_ne (tgt := 19) S.1 S.2.1 dX6_put_12 (by decide) (fun c1 => ?_) (fun c1 => ?_)
  · have ho : σ.2.2.1 49 2 = 1 := hop.resolve_left c1
    have hR := hR0 ho
    obtain ⟨q1, q2, q3⟩ := hR
    have hN : ∀ j, j < cnt → σ.2.1 51 j = N j := fun j hj => (q3 j hj).1
    refine lv_lload_n S.1 S.2.1 dX6_put_19 rfl (lv_at hl 2 rfl) ?_
    refine lv_lconst (v := 0) S.1 S.2.1 dX6_put_20 (by decide) ?_
    refine W.lcmp S.1 S.2.1 dX6_put_21 ?_
    refine lv_if_ne (tgt := 29) S.1 S.2.1 dX6_put_22 (by decide) (fun c2 => ?_) (fun c2 => ?_)
    · have hnz : nm ≠ 0 := fun q => c2 (lg_eq0.mpr q)
      obtain ⟨i0, f1, f2, f3, f4⟩ := hfd
      have key47 : ∀ (H : Heap) (locs : List Loc) (ls : Array Slot), (cnt < 8 ∨ (i0 < cnt ∧ σ.2.1 51 i0 = nm ∧ rf = nI i0)) → cv_H E σ s H locs → lv_has ls 8 [(5, .int rf), (0, .ref (E.2.1 49)), (1, .long nm), (3, .long xv)] → W p l e (cv_R 2) s m ([.ref (E.2.1 49), .long nm, .long xv] : List Value).toArray below meth c H locs 0 0 (MQ below (va_Qi (fun r τ => puM σ cnt N O V nm xv r τ) (cv_B E) (cv_A E sz)) ([.ref (E.2.1 49), .long nm, .long xv] : List Value).toArray s 0 0 (cv_A E sz)) (F0 m 47 ls [.ref (E.2.1 49)]) := by
        intro H locs ls hlt8 h hl
        refine lv_iconst (v := 0) S.1 S.2.1 dX6_put_47 (by decide) ?_
        refine cv_pf (ci := 6) (C := RX6) (T := TX6) (N := 18) (x := 0) S K h 49 rfl hinX6 rfl rfl 0 cv_pok_X6_0 hf_38 rfl rfl rfl (Nat.le_of_ble_eq_true rfl) rfl dX6_put_48 (fun σ16 H locs eσ16 h => ?_)
        refine lv_aload_n S.1 S.2.1 dX6_put_51 rfl (lv_at hl 1 rfl) ?_
        refine cv_gf (ci := 6) (C := RX6) (T := TX6) (N := 18) (v := .int (σ16.2.2.1 49 0)) S K h 49 rfl hinX6 rfl rfl 0 (by decide) hf_38 rfl rfl dX6_put_52 ?_
        refine cv_rei (show (σ16.2.2.1 49 0) = 0 from by rw [eσ16, cv_F3, if_pos rfl, if_pos rfl]) ?_
        refine lv_if_le (tgt := 60) S.1 S.2.1 dX6_put_55 (by decide) (fun c3 => ?_) (fun c3 => ?_)
        · have hR1 : em_R σ16 cnt N O V := by rw [eσ16]; exact em_uF ⟨q1, q2, q3⟩ (by decide)
          have hp1 : mp_F σ σ16 ∧ σ16.2.2.1 49 0 = 0 := by rw [eσ16]; exact ⟨mp_uF (Or.inl rfl), by rw [cv_F3, if_pos rfl, if_pos rfl]⟩
          obtain ⟨u1, u2, u3⟩ := hR1
          refine lv_iload S.1 S.2.1 dX6_put_60 (lv_at hl 0 rfl) ?_
          rcases f4 with ⟨j1, j2, j3⟩ | ⟨j1, j3⟩
          · subst j3
            refine lv_if_ge (tgt := 138) S.1 S.2.1 dX6_put_62 (by decide) (fun c4 => ?_) (fun c4 => ?_)
            · have hfY : fdY N cnt nm i0 := ⟨j1, (hN i0 j1).symm.trans j2, fun j hj => by rw [← hN j (by omega)]; exact f2 j hj⟩
              obtain ⟨m1, m2, m3, m4⟩ := u3 i0 j1
              refine lv_aload_n S.1 S.2.1 dX6_put_138 rfl (lv_at hl 1 rfl) ?_
              refine cv_gf (ci := 6) (C := RX6) (T := TX6) (N := 18) (v := .ref (E.2.1 53)) S K h 49 rfl hinX6 rfl rfl 11 (by decide) hf_20 rfl rfl dX6_put_139 ?_
              refine lv_iconst (v := 3) S.1 S.2.1 dX6_put_142 (by decide) ?_
              refine lv_iload S.1 S.2.1 dX6_put_143 (lv_at hl 0 rfl) ?_
              refine lv_imul S.1 S.2.1 dX6_put_145 ?_
              refine cv_rei (show (3 * ((nI i0))) = nI (3 * i0) from pk_mul 3 i0) ?_
              refine cv_lald S K h 53 rfl (n := 24) rfl (3 * i0) rfl (by omega) dX6_put_146 ?_
              refine lv_lload_n S.1 S.2.1 dX6_put_147 rfl (lv_at hl 3 rfl) ?_
              refine W.lcmp S.1 S.2.1 dX6_put_148 ?_
              refine lv_if_eq (tgt := 235) S.1 S.2.1 dX6_put_149 (by decide) (fun c5 => ?_) (fun c5 => ?_)
              · refine lv_iconst (v := 0) S.1 S.2.1 dX6_put_235 (by decide) ?_
                exact cv_zret S hr (Or.inl rfl) hlk hsz h (Or.inr (Or.inr (Or.inr ⟨ho, hnz, hp1.2, hp1.1, Or.inl ⟨i0, hfY, rfl, Or.inl ⟨(m4 0 (Nat.zero_le _)).symm.trans (lg_eq0.mp c5), ⟨u1, u2, u3⟩⟩⟩⟩))) dX6_put_236
              · have hne : V i0 0 ≠ xv := fun q => c5 (lg_eq0.mpr ((m4 0 (Nat.zero_le _)).trans q))
                refine lv_aload_n S.1 S.2.1 dX6_put_152 rfl (lv_at hl 1 rfl) ?_
                refine cv_gf (ci := 6) (C := RX6) (T := TX6) (N := 18) (v := .ref (E.2.1 53)) S K h 49 rfl hinX6 rfl rfl 11 (by decide) hf_20 rfl rfl dX6_put_153 ?_
                refine lv_iconst (v := 3) S.1 S.2.1 dX6_put_156 (by decide) ?_
                refine lv_iload S.1 S.2.1 dX6_put_157 (lv_at hl 0 rfl) ?_
                refine lv_imul S.1 S.2.1 dX6_put_159 ?_
                refine cv_rei (show (3 * ((nI i0))) = nI (3 * i0) from pk_mul 3 i0) ?_
                refine lv_iconst (v := 2) S.1 S.2.1 dX6_put_160 (by decide) ?_
                refine lv_iadd S.1 S.2.1 dX6_put_161 ?_
                refine lv_aload_n S.1 S.2.1 dX6_put_162 rfl (lv_at hl 1 rfl) ?_
                refine cv_gf (ci := 6) (C := RX6) (T := TX6) (N := 18) (v := .ref (E.2.1 53)) S K h 49 rfl hinX6 rfl rfl 11 (by decide) hf_20 rfl rfl dX6_put_163 ?_
                refine lv_iconst (v := 3) S.1 S.2.1 dX6_put_166 (by decide) ?_
                refine lv_iload S.1 S.2.1 dX6_put_167 (lv_at hl 0 rfl) ?_
                refine lv_imul S.1 S.2.1 dX6_put_169 ?_
                refine cv_rei (show (3 * ((nI i0))) = nI (3 * i0) from pk_mul 3 i0) ?_
                refine lv_iconst (v := 1) S.1 S.2.1 dX6_put_170 (by decide) ?_
                refine lv_iadd S.1 S.2.1 dX6_put_171 ?_
                refine cv_lald S K h 53 rfl (n := 24) rfl (3 * i0 + 1) (nI_add _ 1) (by omega) dX6_put_172 ?_
                refine lv_topl (fun y1 ey1 => ?_)
                refine cv_last (x := y1) S K h 53 rfl (n := 24) rfl (3 * i0 + 2) (nI_add _ 2) (by omega) dX6_put_173 (fun σ17 H locs eσ17 h => ?_)
                refine lv_aload_n S.1 S.2.1 dX6_put_174 rfl (lv_at hl 1 rfl) ?_
                refine cv_gf (ci := 6) (C := RX6) (T := TX6) (N := 18) (v := .ref (E.2.1 53)) S K h 49 rfl hinX6 rfl rfl 11 (by decide) hf_20 rfl rfl dX6_put_175 ?_
                refine lv_iconst (v := 3) S.1 S.2.1 dX6_put_178 (by decide) ?_
                refine lv_iload S.1 S.2.1 dX6_put_179 (lv_at hl 0 rfl) ?_
                refine lv_imul S.1 S.2.1 dX6_put_181 ?_
                refine cv_rei (show (3 * ((nI i0))) = nI (3 * i0) from pk_mul 3 i0) ?_
                refine lv_iconst (v := 1) S.1 S.2.1 dX6_put_182 (by decide) ?_
                refine lv_iadd S.1 S.2.1 dX6_put_183 ?_
                refine lv_aload_n S.1 S.2.1 dX6_put_184 rfl (lv_at hl 1 rfl) ?_
                refine cv_gf (ci := 6) (C := RX6) (T := TX6) (N := 18) (v := .ref (E.2.1 53)) S K h 49 rfl hinX6 rfl rfl 11 (by decide) hf_20 rfl rfl dX6_put_185 ?_
                refine lv_iconst (v := 3) S.1 S.2.1 dX6_put_188 (by decide) ?_
                refine lv_iload S.1 S.2.1 dX6_put_189 (lv_at hl 0 rfl) ?_
                refine lv_imul S.1 S.2.1 dX6_put_191 ?_
                refine cv_rei (show (3 * ((nI i0))) = nI (3 * i0) from pk_mul 3 i0) ?_
                refine cv_lald S K h 53 rfl (n := 24) rfl (3 * i0) rfl (by omega) dX6_put_192 ?_
                refine lv_topl (fun y2 ey2 => ?_)
                refine cv_last (x := y2) S K h 53 rfl (n := 24) rfl (3 * i0 + 1) (nI_add _ 1) (by omega) dX6_put_193 (fun σ18 H locs eσ18 h => ?_)
                refine lv_aload_n S.1 S.2.1 dX6_put_194 rfl (lv_at hl 1 rfl) ?_
                refine cv_gf (ci := 6) (C := RX6) (T := TX6) (N := 18) (v := .ref (E.2.1 53)) S K h 49 rfl hinX6 rfl rfl 11 (by decide) hf_20 rfl rfl dX6_put_195 ?_
                refine lv_iconst (v := 3) S.1 S.2.1 dX6_put_198 (by decide) ?_
                refine lv_iload S.1 S.2.1 dX6_put_199 (lv_at hl 0 rfl) ?_
                refine lv_imul S.1 S.2.1 dX6_put_201 ?_
                refine cv_rei (show (3 * ((nI i0))) = nI (3 * i0) from pk_mul 3 i0) ?_
                refine lv_lload_n S.1 S.2.1 dX6_put_202 rfl (lv_at hl 3 rfl) ?_
                refine cv_last (x := xv) S K h 53 rfl (n := 24) rfl (3 * i0) rfl (by omega) dX6_put_203 (fun σ19 H locs eσ19 h => ?_)
                refine lv_aload_n S.1 S.2.1 dX6_put_204 rfl (lv_at hl 1 rfl) ?_
                refine cv_gf (ci := 6) (C := RX6) (T := TX6) (N := 18) (v := .ref (E.2.1 52)) S K h 49 rfl hinX6 rfl rfl 10 (by decide) hf_17 rfl rfl dX6_put_205 ?_
                refine lv_iload S.1 S.2.1 dX6_put_208 (lv_at hl 0 rfl) ?_
                refine lv_aload_n S.1 S.2.1 dX6_put_210 rfl (lv_at hl 1 rfl) ?_
                refine cv_gf (ci := 6) (C := RX6) (T := TX6) (N := 18) (v := .ref (E.2.1 52)) S K h 49 rfl hinX6 rfl rfl 10 (by decide) hf_17 rfl rfl dX6_put_211 ?_
                refine lv_iload S.1 S.2.1 dX6_put_214 (lv_at hl 0 rfl) ?_
                refine cv_iald S K h 52 rfl (n := 8) rfl i0 rfl (by omega) dX6_put_216 ?_
                have r3 : ∀ q, σ19.2.1 q = if q = 53 then vp_updL (vp_updL (vp_updL (σ16.2.1 53) (3 * i0 + 2) y1) (3 * i0 + 1) y2) (3 * i0) xv else σ16.2.1 q := by
                  intro q
                  rw [eσ19, eσ18, eσ17]
                  by_cases hq : q = 53 <;> simp [cv_J2, hq]
                have r1 : σ19.1 = σ16.1 ∧ σ19.2.2 = σ16.2.2 := by rw [eσ19, eσ18, eσ17]; exact ⟨rfl, rfl⟩
                have hy2 : y2 = V i0 0 := by rw [ey2, eσ17, cv_J2, if_pos rfl, pk_uLn (by omega)]; exact m4 0 (Nat.zero_le _)
                have hol : σ19.1 52 i0 = nI (O i0) := by rw [r1.1]; exact m2
                refine cv_rei (show (σ19.1 52 i0) = nI (O i0) from hol) ?_
                have fin : ∀ (H : Heap) (locs : List Loc) (ls : Array Slot) (ov : Int32), ov = nI (min (O i0 + 1) 2) → cv_H E σ19 s H locs → lv_has ls 8 [(5, .int (nI i0)), (0, .ref (E.2.1 49)), (1, .long nm), (3, .long xv)] → W p l e (cv_R 2) s m ([.ref (E.2.1 49), .long nm, .long xv] : List Value).toArray below meth c H locs 0 0 (MQ below (va_Qi (fun r τ => puM σ cnt N O V nm xv r τ) (cv_B E) (cv_A E sz)) ([.ref (E.2.1 49), .long nm, .long xv] : List Value).toArray s 0 0 (cv_A E sz)) (F0 m 234 ls [.int ov, .int (nI i0), .ref (E.2.1 52)]) := by
                  intro H locs ls ov hov h hl
                  refine cv_iast (x := ov) S K h 52 rfl (n := 8) rfl i0 rfl (by omega) dX6_put_234 (fun σ20 H locs eσ20 h => ?_)
                  refine lv_iconst (v := 0) S.1 S.2.1 dX6_put_235 (by decide) ?_
                  refine cv_zret S hr (Or.inl rfl) hlk hsz h (Or.inr (Or.inr (Or.inr ⟨ho, hnz, ?_, ?_, Or.inl ⟨i0, hfY, rfl, Or.inr ⟨hne, ?_⟩⟩⟩))) dX6_put_236
                  · rw [eσ20, cv_I2, r1.2]; exact hp1.2
                  · refine hp1.1.trans ⟨fun k hk => by rw [eσ20, cv_I1, if_neg hk, r1.1], fun k h1 h2 => by rw [eσ20, cv_I2, r3, if_neg h2], fun k i _ => by rw [eσ20, cv_I2, r1.2], by rw [eσ20, cv_I2, r1.2]⟩
                  · refine ⟨by rw [eσ20, cv_I2, r1.2]; exact u1, u2, fun i hi => ?_⟩
                    obtain ⟨p1, p2, p3, p4⟩ := u3 i hi
                    rw [eσ20, cv_I2]
                    by_cases hia : i = i0
                    · subst hia
                      refine ⟨by rw [r3, if_neg (by decide)]; exact p1, by rw [cv_I1, if_pos rfl, pk_us, hov]; simp [ch_O, va_up], by simp [ch_O, va_up]; omega, fun k hk => ?_⟩
                      simp only [ch_O, va_up, if_true] at hk
                      rw [r3, if_pos rfl]
                      rcases (show k = 0 ∨ k = 1 ∨ k = 2 by omega) with rfl | rfl | rfl
                      · simp [ch_V, va_up, vp_updL]
                      · simp [ch_V, va_up, vp_updL, hy2]
                      · simp only [ch_V, va_up, vp_updL]; simp [ey1]; exact p4 1 (by omega)
                    · refine ⟨by rw [r3, if_neg (by decide)]; exact p1, by rw [cv_I1, if_pos rfl, pk_un hia, r1.1, p2]; simp [ch_O, va_up, hia], by simp [ch_O, va_up, hia]; exact p3, fun k hk => ?_⟩
                      simp only [ch_O, va_up, if_neg hia] at hk
                      rw [r3, if_pos rfl, pk_uLn (by omega), pk_uLn (by omega), pk_uLn (by omega), p4 k hk]
                      simp [ch_V, va_up, hia]
                refine lv_iconst (v := 2) S.1 S.2.1 dX6_put_217 (by decide) ?_
                refine lv_icmp_ge (tgt := 233) S.1 S.2.1 dX6_put_218 (by decide) (fun c6 => ?_) (fun c6 => ?_)
                · refine lv_iconst (v := 2) S.1 S.2.1 dX6_put_233 (by decide) ?_
                  exact fin H locs ls 2 ((cv_min2b m3).2 (fun q => absurd c6 (nI_ge (b := 2) q (by decide)))) h hl
                · refine lv_aload_n S.1 S.2.1 dX6_put_221 rfl (lv_at hl 1 rfl) ?_
                  refine cv_gf (ci := 6) (C := RX6) (T := TX6) (N := 18) (v := .ref (E.2.1 52)) S K h 49 rfl hinX6 rfl rfl 10 (by decide) hf_17 rfl rfl dX6_put_222 ?_
                  refine lv_iload S.1 S.2.1 dX6_put_225 (lv_at hl 0 rfl) ?_
                  refine cv_iald S K h 52 rfl (n := 8) rfl i0 rfl (by omega) dX6_put_227 ?_
                  refine lv_iconst (v := 1) S.1 S.2.1 dX6_put_228 (by decide) ?_
                  refine lv_iadd S.1 S.2.1 dX6_put_229 ?_
                  refine cv_rei (show (((σ19.1 52 i0)) + 1) = nI (O i0) + 1 from by rw [hol]) ?_
                  refine lv_goto (tgt := 234) S.1 S.2.1 dX6_put_230 (by decide) ?_
                  exact fin H locs ls _ ((cv_min2b m3).1 (Nat.not_le.mp (fun q => c6 (nI_le (a := 2) q (by omega))))) h hl
            · exact absurd (nI_pos' (by omega)) c4
          · have hneg := m1_neg i0 (by omega)
            have hback := m1_back i0 (by omega)
            subst j3
            refine lv_if_ge (tgt := 138) S.1 S.2.1 dX6_put_62 (by decide) (fun c4 => ?_) (fun c4 => ?_)
            · exact absurd hneg (Int32.not_lt.mpr c4)
            · have hi8 : cnt < 8 := hlt8.elim id (fun q => absurd hneg (by rw [q.2.2]; exact nI_pos (by omega)))
              have hfN : fdN N cnt nm i0 := ⟨f1, fun j hj => by rw [← hN j (by omega)]; exact f2 j hj, fun q => ⟨by rw [← hN i0 q]; exact f3 q, by rw [← hN i0 q]; exact j1.resolve_left (by omega)⟩⟩
              refine lv_iconst (v := (-1)) S.1 S.2.1 dX6_put_65 (by decide) ?_
              refine lv_iload S.1 S.2.1 dX6_put_66 (lv_at hl 0 rfl) ?_
              refine lv_isub S.1 S.2.1 dX6_put_68 ?_
              refine cv_rei (show (((-1)) - (((-1) - nI i0))) = nI i0 from hback) ?_
              refine lv_istore (lv' := [(6, .int (nI i0)), (5, .int ((-1) - nI i0)), (0, .ref (E.2.1 49)), (1, .long nm), (3, .long xv)]) S.1 S.2.1 dX6_put_69 hl (by decide) rfl (fun ls hl => ?_)
              refine lv_aload_n S.1 S.2.1 dX6_put_71 rfl (lv_at hl 2 rfl) ?_
              refine cv_gf (ci := 6) (C := RX6) (T := TX6) (N := 18) (v := .int (σ16.2.2.1 49 8)) S K h 49 rfl hinX6 rfl rfl 8 (by decide) hf_78 rfl rfl dX6_put_72 ?_
              refine cv_rei (show (σ16.2.2.1 49 8) = nI cnt from u1) ?_
              refine lv_istore (lv' := [(7, .int (nI cnt)), (6, .int (nI i0)), (5, .int ((-1) - nI i0)), (0, .ref (E.2.1 49)), (1, .long nm), (3, .long xv)]) S.1 S.2.1 dX6_put_75 hl (by decide) rfl (fun ls hl => ?_)
              refine cv_loop (α := Unit) (nL := 8) (cnt - i0) (fun i a τ => mp_F σ16 τ ∧ τ.2.2 = σ16.2.2 ∧ (∀ j, j < cnt - i → em_E τ j σ16 j) ∧ (∀ j, cnt - i < j → j ≤ cnt → em_E τ j σ16 (j - 1))) (fun i a => [(7, .int (nI (cnt - i))), (6, .int (nI i0)), (5, .int ((-1) - nI i0)), (0, .ref (E.2.1 49)), (1, .long nm), (3, .long xv)]) ?_ ?_ 0 () σ16 _ _ _ (by omega) (⟨mp_F.rf, rfl, fun _ _ => em_E.rf, fun j h1 h2 => absurd h1 (by omega)⟩) h hl
              · intro i a τ H locs ls hi hI h hl ih
                have hl : lv_has ls 8 [(7, .int (nI (cnt - i))), (6, .int (nI i0)), (5, .int ((-1) - nI i0)), (0, .ref (E.2.1 49)), (1, .long nm), (3, .long xv)] := hl
                obtain ⟨g1, g2, g3, g4⟩ := hI
                refine lv_iload S.1 S.2.1 dX6_put_77 (lv_at hl 0 rfl) ?_
                refine lv_iload S.1 S.2.1 dX6_put_79 (lv_at hl 1 rfl) ?_
                refine lv_icmp_le (tgt := 100) S.1 S.2.1 dX6_put_81 (by decide) (fun c5 => ?_) (fun c5 => ?_)
                · exact absurd c5 (nI_ge (show i0 < cnt - i by omega) (by omega))
                · refine lv_aload_n S.1 S.2.1 dX6_put_84 rfl (lv_at hl 3 rfl) ?_
                  refine lv_iload S.1 S.2.1 dX6_put_85 (lv_at hl 0 rfl) ?_
                  refine lv_iload S.1 S.2.1 dX6_put_87 (lv_at hl 0 rfl) ?_
                  refine lv_iconst (v := 1) S.1 S.2.1 dX6_put_89 (by decide) ?_
                  refine lv_isub S.1 S.2.1 dX6_put_90 ?_
                  refine cv_rei (show (((nI (cnt - i))) - 1) = nI (cnt - i - 1) from pk_sub (a := cnt - i) (b := 1) (by omega)) ?_
                  refine cv_callv (ci := 6) (C := RX6) (T := TX6) (N := 18) S K h hl.1 rfl rfl rfl (m_move l E τ (cnt - i) (cnt - i - 1) (by omega) (by omega)) (cwV 2 S.2.2.2.2 gX6_put_X6_move rfl rfl rfl (by decide +kernel) ⟨Nat.le_of_ble_eq_true rfl, Nat.le_of_ble_eq_true rfl⟩) rfl rfl (Nat.le_of_ble_eq_true rfl) ⟨Nat.zero_le _, Nat.zero_le _⟩ dX6_put_91 (fun σ21 H locs hq h => ?_)
                  obtain ⟨z5, ez5⟩ : ∃ y : Int32, y = ((nI (cnt - i))) + (-1) := ⟨_, rfl⟩
                  refine lv_iinc (v := z5) (lv' := [(7, .int z5), (6, .int (nI i0)), (5, .int ((-1) - nI i0)), (0, .ref (E.2.1 49)), (1, .long nm), (3, .long xv)]) S.1 S.2.1 dX6_put_94 hl (k := 0) rfl (by rw [ez5]; rfl) (by decide) rfl (fun ls hl => ?_)
                  refine lv_goto (tgt := 77) S.1 S.2.1 dX6_put_97 (by decide) ?_
                  rw [ez5, sb_m1 (by omega), Nat.sub_sub] at hl
                  obtain ⟨p1, p2, p3, p4⟩ := hq
                  refine ih () σ21 H locs ls ⟨g1.trans p3, p4.trans g2, fun j hj => (p2 j (by omega) (by omega)).trans (g3 j (by omega)), fun j h1 h2 => ?_⟩ h hl
                  by_cases hj : j = cnt - i
                  · subst hj; exact p1.trans (g3 _ (by omega))
                  · exact (p2 j (by omega) hj).trans (g4 j (by omega) h2)
              · intro a τ H locs ls hI h hl
                have hl : lv_has ls 8 [(7, .int (nI (cnt - (cnt - i0)))), (6, .int (nI i0)), (5, .int ((-1) - nI i0)), (0, .ref (E.2.1 49)), (1, .long nm), (3, .long xv)] := hl
                obtain ⟨g1, g2, g3, g4⟩ := hI
                rw [show cnt - (cnt - i0) = i0 by omega] at hl g3 g4
                refine lv_iload S.1 S.2.1 dX6_put_77 (lv_at hl 0 rfl) ?_
                refine lv_iload S.1 S.2.1 dX6_put_79 (lv_at hl 1 rfl) ?_
                refine lv_icmp_le (tgt := 100) S.1 S.2.1 dX6_put_81 (by decide) (fun c5 => ?_) (fun c5 => ?_)
                · refine lv_aload_n S.1 S.2.1 dX6_put_100 rfl (lv_at hl 3 rfl) ?_
                  refine lv_dup S.1 S.2.1 dX6_put_101 rfl ?_
                  refine cv_gf (ci := 6) (C := RX6) (T := TX6) (N := 18) (v := .int (τ.2.2.1 49 8)) S K h 49 rfl hinX6 rfl rfl 8 (by decide) hf_78 rfl rfl dX6_put_102 ?_
                  refine lv_iconst (v := 1) S.1 S.2.1 dX6_put_105 (by decide) ?_
                  refine lv_iadd S.1 S.2.1 dX6_put_106 ?_
                  refine lv_topi (fun y9 ey9 => ?_)
                  refine cv_pf (ci := 6) (C := RX6) (T := TX6) (N := 18) (x := y9) S K h 49 rfl hinX6 rfl rfl 8 cv_pok_X6_8 hf_78 rfl rfl rfl (Nat.le_of_ble_eq_true rfl) rfl dX6_put_107 (fun σ22 H locs eσ22 h => ?_)
                  refine lv_aload_n S.1 S.2.1 dX6_put_110 rfl (lv_at hl 3 rfl) ?_
                  refine cv_gf (ci := 6) (C := RX6) (T := TX6) (N := 18) (v := .ref (E.2.1 51)) S K h 49 rfl hinX6 rfl rfl 9 (by decide) hf_13 rfl rfl dX6_put_111 ?_
                  refine lv_iload S.1 S.2.1 dX6_put_114 (lv_at hl 1 rfl) ?_
                  refine lv_lload_n S.1 S.2.1 dX6_put_116 rfl (lv_at hl 4 rfl) ?_
                  refine cv_last (x := nm) S K h 51 rfl (n := 8) rfl i0 rfl (by omega) dX6_put_117 (fun σ23 H locs eσ23 h => ?_)
                  refine lv_aload_n S.1 S.2.1 dX6_put_118 rfl (lv_at hl 3 rfl) ?_
                  refine cv_gf (ci := 6) (C := RX6) (T := TX6) (N := 18) (v := .ref (E.2.1 52)) S K h 49 rfl hinX6 rfl rfl 10 (by decide) hf_17 rfl rfl dX6_put_119 ?_
                  refine lv_iload S.1 S.2.1 dX6_put_122 (lv_at hl 1 rfl) ?_
                  refine lv_iconst (v := 0) S.1 S.2.1 dX6_put_124 (by decide) ?_
                  refine cv_iast (x := 0) S K h 52 rfl (n := 8) rfl i0 rfl (by omega) dX6_put_125 (fun σ24 H locs eσ24 h => ?_)
                  refine lv_aload_n S.1 S.2.1 dX6_put_126 rfl (lv_at hl 3 rfl) ?_
                  refine cv_gf (ci := 6) (C := RX6) (T := TX6) (N := 18) (v := .ref (E.2.1 53)) S K h 49 rfl hinX6 rfl rfl 11 (by decide) hf_20 rfl rfl dX6_put_127 ?_
                  refine lv_iconst (v := 3) S.1 S.2.1 dX6_put_130 (by decide) ?_
                  refine lv_iload S.1 S.2.1 dX6_put_131 (lv_at hl 1 rfl) ?_
                  refine lv_imul S.1 S.2.1 dX6_put_133 ?_
                  refine cv_rei (show (3 * ((nI i0))) = nI (3 * i0) from pk_mul 3 i0) ?_
                  refine lv_lload_n S.1 S.2.1 dX6_put_134 rfl (lv_at hl 5 rfl) ?_
                  refine cv_last (x := xv) S K h 53 rfl (n := 24) rfl (3 * i0) rfl (by omega) dX6_put_135 (fun σ25 H locs eσ25 h => ?_)
                  refine lv_iconst (v := 1) S.1 S.2.1 dX6_put_136 (by decide) ?_
                  have hy : y9 = nI (cnt + 1) := by rw [ey9, g2, u1, nI_1]
                  have r3 : ∀ q, σ25.2.1 q = if q = 51 then vp_updL (τ.2.1 51) i0 nm else if q = 53 then vp_updL (τ.2.1 53) (3 * i0) xv else τ.2.1 q := by
                    intro q
                    rw [eσ25, eσ24, eσ23, eσ22]
                    simp only [cv_J2, cv_I2, cv_F2]
                    by_cases hq : q = 53
                    · subst hq; simp
                    · simp [hq]
                  have r1 : ∀ q, σ25.1 q = if q = 52 then upd (τ.1 52) i0 0 else τ.1 q := by
                    intro q
                    rw [eσ25, cv_J1, eσ24, eσ23, eσ22]
                    rfl
                  have r2 : σ25.2.2 = (cv_uF τ 49 8 (nI (cnt + 1))).2.2 := by rw [eσ25, eσ24, eσ23, eσ22, hy]; rfl
                  have hfl : ∀ k i, σ25.2.2.1 k i = if k = 49 then (if i = 8 then nI (cnt + 1) else τ.2.2.1 49 i) else τ.2.2.1 k i := fun k i => by rw [r2, cv_F3]
                  refine cv_zret S hr (Or.inr rfl) hlk hsz h (Or.inr (Or.inr (Or.inr ⟨ho, hnz, ?_, ?_, Or.inr ⟨hi8, i0, hfN, rfl, ?_⟩⟩))) dX6_put_137
                  · rw [hfl, if_pos rfl, if_neg (by decide), g2]; exact hp1.2
                  · refine hp1.1.trans (g1.trans ⟨fun k hk => by rw [r1, if_neg hk], fun k h1 h2 => by rw [r3, if_neg h1, if_neg h2], fun k i hk => ?_, by rw [r2]; rfl⟩)
                    rw [hfl]
                    by_cases h1 : k = 49
                    · rw [if_pos h1, if_neg (by omega), h1]
                    · rw [if_neg h1]
                  · refine ⟨by rw [hfl, if_pos rfl, if_pos rfl], by omega, fun i hi => ?_⟩
                    by_cases hia : i = i0
                    · subst hia
                      refine ⟨by rw [r3, if_pos rfl, pk_uLs]; simp [li_ins], by rw [r1, if_pos rfl, pk_us]; simp [li_ins]; rfl, by simp [li_ins], fun k hk => ?_⟩
                      have hk0 : k = 0 := by simp [li_ins] at hk; exact hk
                      rw [hk0, r3, if_neg (by decide), if_pos rfl, Nat.add_zero, pk_uLs]
                      simp [li_ins]
                    · have hE : em_E σ25 i τ i := ⟨by rw [r3, if_pos rfl, pk_uLn hia], by rw [r1, if_pos rfl, pk_un hia], fun k hk => by rw [r3, if_neg (by decide), if_pos rfl, pk_uLn (by omega)]⟩
                      by_cases hlt : i < i0
                      · have := (hE.trans (g3 i hlt)).R (u3 i (by omega))
                        simpa [li_ins, hlt] using this
                      · have := (hE.trans (g4 i (by omega) (by omega))).R (u3 (i - 1) (by omega))
                        simpa [li_ins, hlt, hia] using this
                · exact absurd (Int32.le_refl _) c5
        · exact absurd (Int32.le_refl _) c3
      refine lv_iload S.1 S.2.1 dX6_put_29 (lv_at hl 0 rfl) ?_
      refine lv_if_ge (tgt := 47) S.1 S.2.1 dX6_put_31 (by decide) (fun c7 => ?_) (fun c7 => ?_)
      · refine key47 H locs ls (Or.inr ?_) h hl
        rcases f4 with q | q
        · exact q
        · exact absurd (m1_neg i0 (by omega)) (by rw [← q.2]; exact Int32.not_lt.mpr c7)
      · refine lv_aload_n S.1 S.2.1 dX6_put_34 rfl (lv_at hl 1 rfl) ?_
        refine cv_gf (ci := 6) (C := RX6) (T := TX6) (N := 18) (v := .int (σ.2.2.1 49 8)) S K h 49 rfl hinX6 rfl rfl 8 (by decide) hf_78 rfl rfl dX6_put_35 ?_
        refine cv_rei (show (σ.2.2.1 49 8) = nI cnt from hct) ?_
        refine lv_bipush (v := 8) S.1 S.2.1 dX6_put_38 (by decide) ?_
        refine lv_icmp_ne (tgt := 47) S.1 S.2.1 dX6_put_40 (by decide) (fun c8 => ?_) (fun c8 => ?_)
        · exact key47 H locs ls (Or.inl (Nat.lt_of_le_of_ne hc8 (fun q => c8 (by rw [q]; rfl)))) h hl
        · refine lv_iconst (v := 3) S.1 S.2.1 dX6_put_43 (by decide) ?_
          refine lv_goto (tgt := 48) S.1 S.2.1 dX6_put_44 (by decide) ?_
          refine cv_pf (ci := 6) (C := RX6) (T := TX6) (N := 18) (x := 3) S K h 49 rfl hinX6 rfl rfl 0 cv_pok_X6_0 hf_38 rfl rfl rfl (Nat.le_of_ble_eq_true rfl) rfl dX6_put_48 (fun σ26 H locs eσ26 h => ?_)
          refine lv_aload_n S.1 S.2.1 dX6_put_51 rfl (lv_at hl 1 rfl) ?_
          refine cv_gf (ci := 6) (C := RX6) (T := TX6) (N := 18) (v := .int (σ26.2.2.1 49 0)) S K h 49 rfl hinX6 rfl rfl 0 (by decide) hf_38 rfl rfl dX6_put_52 ?_
          refine cv_rei (show (σ26.2.2.1 49 0) = 3 from by rw [eσ26, cv_F3, if_pos rfl, if_pos rfl]) ?_
          refine lv_if_le (tgt := 60) S.1 S.2.1 dX6_put_55 (by decide) (fun cz => ?_) (fun cz => ?_)
          · exact absurd cz (by decide)
          · refine lv_iconst (v := 0) S.1 S.2.1 dX6_put_58 (by decide) ?_
            have hnf : (i0 = cnt ∨ σ.2.1 51 i0 ≠ nm) := by
              rcases f4 with q | q
              · exact absurd (nI_pos' (n := i0) (by omega)) (by rw [← q.2.2]; exact c7)
              · exact q.1
            exact cv_zret S hr (Or.inl rfl) hlk hsz h (Or.inr (Or.inr (Or.inl ⟨ho, hnz, (nI_eq (b := 8) (by omega) (by decide)).mp c8, ⟨i0, f1, fun j hj => by rw [← hN j (by omega)]; exact f2 j hj, fun q => ⟨by rw [← hN i0 q]; exact f3 q, by rw [← hN i0 q]; exact hnf.resolve_left (by omega)⟩⟩, eσ26⟩))) dX6_put_59
    · refine lv_iconst (v := 2) S.1 S.2.1 dX6_put_25 (by decide) ?_
      refine lv_goto (tgt := 48) S.1 S.2.1 dX6_put_26 (by decide) ?_
      refine cv_pf (ci := 6) (C := RX6) (T := TX6) (N := 18) (x := 2) S K h 49 rfl hinX6 rfl rfl 0 cv_pok_X6_0 hf_38 rfl rfl rfl (Nat.le_of_ble_eq_true rfl) rfl dX6_put_48 (fun σ27 H locs eσ27 h => ?_)
      refine lv_aload_n S.1 S.2.1 dX6_put_51 rfl (lv_at hl 1 rfl) ?_
      refine cv_gf (ci := 6) (C := RX6) (T := TX6) (N := 18) (v := .int (σ27.2.2.1 49 0)) S K h 49 rfl hinX6 rfl rfl 0 (by decide) hf_38 rfl rfl dX6_put_52 ?_
      refine cv_rei (show (σ27.2.2.1 49 0) = 2 from by rw [eσ27, cv_F3, if_pos rfl, if_pos rfl]) ?_
      refine lv_if_le (tgt := 60) S.1 S.2.1 dX6_put_55 (by decide) (fun cz => ?_) (fun cz => ?_)
      · exact absurd cz (by decide)
      · refine lv_iconst (v := 0) S.1 S.2.1 dX6_put_58 (by decide) ?_
        exact cv_zret S hr (Or.inl rfl) hlk hsz h (Or.inr (Or.inl ⟨ho, lg_eq0.mp c2, eσ27⟩)) dX6_put_59
  · refine lv_iconst (v := 1) S.1 S.2.1 dX6_put_15 (by decide) ?_
    refine lv_goto (tgt := 48) S.1 S.2.1 dX6_put_16 (by decide) ?_
    refine cv_pf (ci := 6) (C := RX6) (T := TX6) (N := 18) (x := 1) S K h 49 rfl hinX6 rfl rfl 0 cv_pok_X6_0 hf_38 rfl rfl rfl (Nat.le_of_ble_eq_true rfl) rfl dX6_put_48 (fun σ15 H locs eσ15 h => ?_)
    refine lv_aload_n S.1 S.2.1 dX6_put_51 rfl (lv_at hl 1 rfl) ?_
    refine cv_gf (ci := 6) (C := RX6) (T := TX6) (N := 18) (v := .int (σ15.2.2.1 49 0)) S K h 49 rfl hinX6 rfl rfl 0 (by decide) hf_38 rfl rfl dX6_put_52 ?_
    refine cv_rei (show (σ15.2.2.1 49 0) = 1 from by rw [eσ15, cv_F3, if_pos rfl, if_pos rfl]) ?_
    refine lv_if_le (tgt := 60) S.1 S.2.1 dX6_put_55 (by decide) (fun cz => ?_) (fun cz => ?_)
    · exact absurd cz (by decide)
    · refine lv_iconst (v := 0) S.1 S.2.1 dX6_put_58 (by decide) ?_
      exact cv_zret S hr (Or.inl rfl) hlk hsz h (Or.inl ⟨c1, eσ15⟩) dX6_put_59
