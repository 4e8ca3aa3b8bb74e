/-! 49: the law's cases -/
theorem and15 (x : Int32) : ∃ j, j < 16 ∧ x &&& 15 = nI j := ⟨x.toBitVec.toNat % 16, Nat.mod_lt _ (by decide), pk_and x 4 (by decide)⟩
section CVL
variable {p : Program} {l : Launch} {e : Env} {R : Room} {s : State} {m : MethodId} {args : Array Value} {below : List Frame} {meth : Method} {c : Code} {H : Heap} {locs : List Loc} {cells slots : Nat} {Q : State → Prop}
variable {cc : ByteArray} {pc nL : Nat} {ls : Array Slot} {rest : List Value} {E : cv_E} {σ : cv_S} {own : String} {Ts : List Cond}
variable {y : MethodName} {ws : List Cond} {bytes : ByteArray} {maxL index n : Nat} {ret : Option FieldType} {hh : List (Nat × Nat × Nat × Nat)} {As st0 : List Value}
theorem cvh_call {post : Int32 → cv_S → Prop} (S : CallFix p m c cc nL s args Ts own) (K : cv_K E s) (X : cv_KX (cv_A E s.heap.size) s s.heap) (h : cv_H E σ s H locs) (hls : ls.size = nL) (hM : cv_Hi l E y ws As σ post) (cw : vx_CSW R s args own index y bytes maxL ret hh ws (cv_RX 8 2) 2 (6 * 2) n) (hn : As.length = n) (hst : st0 = As.reverse ++ rest) (hW : (rest.map fun v => v.category).sum ≤ 8) (hcs : cells + 2 ≤ R.cells ∧ slots + 6 * 2 ≤ R.slots) (hdg : decode cc pc = .ok (.invokestatic index, 3))
    (kk : ∀ (r : Int32) (σ' : cv_S) (H1 : Heap) (locs1 : List Loc), post r σ' → cv_H E σ' s H1 locs1 → W p l e R s m args below meth c H1 locs1 (cells + 2) (slots + 6 * 2) Q (F0 m (pc + 3) ls (.int r :: rest))) : W p l e R s m args below meth c H locs cells slots Q (F0 m pc ls st0) :=
  va_calli (vx_runSW (As := As) (rest := rest) S (hM H.size) cw ⟨cvx_blind E σ H.size _, cvx_pc K X h _⟩ rfl hn hls hst (lv_room hW) hdg hcs) h.2 (fun q _ h9 => cv_le h.2 q h9) (cv_le h.2) (fun r σ' t H1 locs1 ht _ hp hB _ _ hS => kk r σ' H1 locs1 hp ⟨by rw [← ht]; exact hB, hS⟩)
theorem cv_sld {b L : Nat} {xs : Nat → Int32} (S : CallFix p m c cc nL s args Ts own) (h : cv_H E σ s H locs) (hX : va_X b L xs s s.heap) (hbl : b < s.heap.size) (hbA : ¬ cv_A E s.heap.size b) (hL : L ≤ 3072) {j : Nat} (hj : j < L) (hdg : decode cc pc = .ok (.iaload, 1))
    (kk : W p l e R s m args below meth c H locs cells slots Q (F0 m (pc + 1) ls (.int (xs j) :: rest))) : W p l e R s m args below meth c H locs cells slots Q (F0 m pc ls (.int (nI j) :: .ref b :: rest)) := by
  refine va_sld S.1 S.2.1 hX hbl hbA h.2 (vp_in_nI hj (by omega)) hdg ?_
  rw [nI_clamp (show j < 2 ^ 31 by omega)]
  exact kk
end CVL

set_option maxHeartbeats 4000000 in
set_option maxRecDepth 100000 in
theorem law_make {p : Program} {l : Launch} {e : Env} {s : State} {m : MethodId} {below : List Frame} {meth : Method} {c : Code} {E : cv_E} {b L : Nat} {xs : Nat → Int32} (hst : l.stackTraces = false) (S : CallFix p m c cL_law 8 s #[Value.ref b] wsL_law RL) (K : cv_K E s) (X : cv_KX (cv_A E s.heap.size) s s.heap) (hX : va_X b L xs s s.heap) (hbl : b < s.heap.size) (hbA : ¬ cv_A E s.heap.size b) (hL : L ≤ 3072) {σ : cv_S} {H : Heap} {locs : List Loc} {ls : Array Slot} {cells slots : Nat} {Q : State → Prop} (i : Nat) (hi : 6 * i + 6 ≤ L) (hcs : cells + 2 ≤ room_1.cells ∧ slots + 6 * 2 ≤ room_1.slots) (hR : Rel σ) (h : cv_H E σ s H locs) (hl : lv_has ls 8 [(0, .ref b), (1, .ref (E.2.1 0)), (2, .ref (E.2.1 49)), (3, .ref (E.2.1 59)), (4, .int (nI (6 * i)))]) (ih : ∀ (σ' : cv_S) (H' : Heap) (locs' : List Loc) (ls' : Array Slot), Rel σ' → cv_H E σ' s H' locs' → lv_has ls' 8 [(0, .ref b), (1, .ref (E.2.1 0)), (2, .ref (E.2.1 49)), (3, .ref (E.2.1 59)), (4, .int (nI (6 * i)))] → W p l e room_1 s m #[Value.ref b] below meth c H' locs' (cells + 2) (slots + 6 * 2) Q (F0 m 1239 ls' [])) : W p l e room_1 s m #[Value.ref b] below meth c H locs cells slots Q (F0 m 120 ls []) := by
  obtain ⟨dv, op, pw0, kn0, sa0, sr0, rd0, cnt, N, O, V, C, M, P⟩ := hR
  refine lv_aload_n S.1 S.2.1 dL_law_120 rfl (lv_at hl 1 rfl) ?_
  refine lv_aload_n S.1 S.2.1 dL_law_121 rfl (lv_at hl 0 rfl) ?_
  refine lv_iload S.1 S.2.1 dL_law_122 (lv_at hl 4 rfl) ?_
  refine lv_iconst (v := 1) S.1 S.2.1 dL_law_124 (by decide) ?_
  refine lv_iadd S.1 S.2.1 dL_law_125 ?_
  refine cv_rei (show (((nI (6 * i))) + 1) = nI (6 * i + 1) from nI_add _ _) ?_
  refine cv_sld (j := 6 * i + 1) S h hX hbl hbA hL (by omega) dL_law_126 ?_
  refine lv_i2l (v := ((xs (6 * i + 1)) : Int32).toInt64) S.1 S.2.1 dL_law_127 rfl ?_
  refine lv_bipush (v := 32) S.1 S.2.1 dL_law_128 (by decide) ?_
  refine lv_lshl (v := ((((xs (6 * i + 1)) : Int32).toInt64)) <<< ((32 : Int32).toInt64 &&& 63)) S.1 S.2.1 dL_law_130 rfl ?_
  refine lv_aload_n S.1 S.2.1 dL_law_131 rfl (lv_at hl 0 rfl) ?_
  refine lv_iload S.1 S.2.1 dL_law_132 (lv_at hl 4 rfl) ?_
  refine lv_iconst (v := 2) S.1 S.2.1 dL_law_134 (by decide) ?_
  refine lv_iadd S.1 S.2.1 dL_law_135 ?_
  refine cv_rei (show (((nI (6 * i))) + 2) = nI (6 * i + 2) from nI_add _ _) ?_
  refine cv_sld (j := 6 * i + 2) S h hX hbl hbA hL (by omega) dL_law_136 ?_
  refine lv_i2l (v := ((xs (6 * i + 2)) : Int32).toInt64) S.1 S.2.1 dL_law_137 rfl ?_
  refine lv_ldc2 (v := 4294967295) S.1 S.2.1 S.2.2.2.1 (S.2.2.2.2 (.constantLong RL 77 (4294967295)) (by decide +kernel)) dL_law_138 ?_
  refine lv_land S.1 S.2.1 dL_law_141 ?_
  refine lv_lor S.1 S.2.1 dL_law_142 ?_
  refine lv_aload_n S.1 S.2.1 dL_law_143 rfl (lv_at hl 0 rfl) ?_
  refine lv_iload S.1 S.2.1 dL_law_144 (lv_at hl 4 rfl) ?_
  refine lv_iconst (v := 3) S.1 S.2.1 dL_law_146 (by decide) ?_
  refine lv_iadd S.1 S.2.1 dL_law_147 ?_
  refine cv_rei (show (((nI (6 * i))) + 3) = nI (6 * i + 3) from nI_add _ _) ?_
  refine cv_sld (j := 6 * i + 3) S h hX hbl hbA hL (by omega) dL_law_148 ?_
  refine lv_aload_n S.1 S.2.1 dL_law_149 rfl (lv_at hl 0 rfl) ?_
  refine lv_iload S.1 S.2.1 dL_law_150 (lv_at hl 4 rfl) ?_
  refine lv_iconst (v := 4) S.1 S.2.1 dL_law_152 (by decide) ?_
  refine lv_iadd S.1 S.2.1 dL_law_153 ?_
  refine cv_rei (show (((nI (6 * i))) + 4) = nI (6 * i + 4) from nI_add _ _) ?_
  refine cv_sld (j := 6 * i + 4) S h hX hbl hbA hL (by omega) dL_law_154 ?_
  refine lv_aload_n S.1 S.2.1 dL_law_155 rfl (lv_at hl 0 rfl) ?_
  refine lv_iload S.1 S.2.1 dL_law_156 (lv_at hl 4 rfl) ?_
  refine lv_iconst (v := 5) S.1 S.2.1 dL_law_158 (by decide) ?_
  refine lv_iadd S.1 S.2.1 dL_law_159 ?_
  refine cv_rei (show (((nI (6 * i))) + 5) = nI (6 * i + 5) from nI_add _ _) ?_
  refine cv_sld (j := 6 * i + 5) S h hX hbl hbA hL (by omega) dL_law_160 ?_
  refine lv_aload_n S.1 S.2.1 dL_law_161 rfl (lv_at hl 3 rfl) ?_
  refine cvh_call (hh := [(0, 22, 25, 13)]) S K X h hl.1 (h_make l E σ ((((((((xs (6 * i + 1)) : Int32).toInt64)) <<< ((32 : Int32).toInt64 &&& 63))) ||| ((((((xs (6 * i + 2)) : Int32).toInt64)) &&& 4294967295)))) ((xs (6 * i + 3))) ((xs (6 * i + 4))) ((xs (6 * i + 5))) (c_make l hst E σ ((((((((xs (6 * i + 1)) : Int32).toInt64)) <<< ((32 : Int32).toInt64 &&& 63))) ||| ((((((xs (6 * i + 2)) : Int32).toInt64)) &&& 4294967295)))) ((xs (6 * i + 3))) ((xs (6 * i + 4))) ((xs (6 * i + 5)))) (fun nm τ z => z.1) (fun r τ ⟨_, _, _, _, _, _, _, _, _, _, _, _, _, z⟩ => scM01 z)) (vx_cwSW 6 S.2.2.2.2 gL_law_L_make rfl rfl rfl (by decide +kernel) ⟨Nat.le_of_ble_eq_true rfl, Nat.le_of_ble_eq_true rfl⟩) rfl rfl (Nat.le_of_ble_eq_true rfl) hcs dL_law_162 (fun k σ1_ H locs hk h => ?_)
  have M1 := M.hi (fr_make (dv := dv) (op := op) (pw0 := pw0) (kn0 := kn0) (sa0 := sa0) (sr0 := sr0) (rd0 := rd0) (cnt := cnt) (N := N) (O := O) (V := V) hk)
  have hop : σ1_.2.2.1 49 2 = 0 ∨ σ1_.2.2.1 49 2 = 1 := by rw [M1.2.1]; exact P.1
  refine lv_istore (lv' := [(5, .int k), (0, .ref b), (1, .ref (E.2.1 0)), (2, .ref (E.2.1 49)), (3, .ref (E.2.1 59)), (4, .int (nI (6 * i)))]) S.1 S.2.1 dL_law_165 hl (by decide) rfl (fun ls hl => ?_)
  refine lv_aload_n S.1 S.2.1 dL_law_167 rfl (lv_at hl 3 rfl) ?_
  refine lv_aload_n S.1 S.2.1 dL_law_168 rfl (lv_at hl 1 rfl) ?_
  refine lv_iload S.1 S.2.1 dL_law_169 (lv_at hl 5 rfl) ?_
  refine lv_iconst (v := 1) S.1 S.2.1 dL_law_171 (by decide) ?_
  refine lv_iadd S.1 S.2.1 dL_law_172 ?_
  refine cv_rei (show (((nI (6 * i))) + 1) = nI (6 * i + 1) from nI_add _ _) ?_
  refine cv_sld (j := 6 * i + 1) S h hX hbl hbA hL (by omega) dL_law_173 ?_
  refine lv_i2l (v := ((xs (6 * i + 1)) : Int32).toInt64) S.1 S.2.1 dL_law_174 rfl ?_
  refine lv_bipush (v := 32) S.1 S.2.1 dL_law_175 (by decide) ?_
  refine lv_lshl (v := ((((xs (6 * i + 1)) : Int32).toInt64)) <<< ((32 : Int32).toInt64 &&& 63)) S.1 S.2.1 dL_law_177 rfl ?_
  refine lv_aload_n S.1 S.2.1 dL_law_178 rfl (lv_at hl 1 rfl) ?_
  refine lv_iload S.1 S.2.1 dL_law_179 (lv_at hl 5 rfl) ?_
  refine lv_iconst (v := 2) S.1 S.2.1 dL_law_181 (by decide) ?_
  refine lv_iadd S.1 S.2.1 dL_law_182 ?_
  refine cv_rei (show (((nI (6 * i))) + 2) = nI (6 * i + 2) from nI_add _ _) ?_
  refine cv_sld (j := 6 * i + 2) S h hX hbl hbA hL (by omega) dL_law_183 ?_
  refine lv_i2l (v := ((xs (6 * i + 2)) : Int32).toInt64) S.1 S.2.1 dL_law_184 rfl ?_
  refine lv_ldc2 (v := 4294967295) S.1 S.2.1 S.2.2.2.1 (S.2.2.2.2 (.constantLong RL 77 (4294967295)) (by decide +kernel)) dL_law_185 ?_
  refine lv_land S.1 S.2.1 dL_law_188 ?_
  refine lv_lor S.1 S.2.1 dL_law_189 ?_
  refine lv_aload_n S.1 S.2.1 dL_law_190 rfl (lv_at hl 1 rfl) ?_
  refine lv_iload S.1 S.2.1 dL_law_191 (lv_at hl 5 rfl) ?_
  refine lv_iconst (v := 3) S.1 S.2.1 dL_law_193 (by decide) ?_
  refine lv_iadd S.1 S.2.1 dL_law_194 ?_
  refine cv_rei (show (((nI (6 * i))) + 3) = nI (6 * i + 3) from nI_add _ _) ?_
  refine cv_sld (j := 6 * i + 3) S h hX hbl hbA hL (by omega) dL_law_195 ?_
  refine lv_aload_n S.1 S.2.1 dL_law_196 rfl (lv_at hl 1 rfl) ?_
  refine lv_iload S.1 S.2.1 dL_law_197 (lv_at hl 5 rfl) ?_
  refine lv_iconst (v := 4) S.1 S.2.1 dL_law_199 (by decide) ?_
  refine lv_iadd S.1 S.2.1 dL_law_200 ?_
  refine cv_rei (show (((nI (6 * i))) + 4) = nI (6 * i + 4) from nI_add _ _) ?_
  refine cv_sld (j := 6 * i + 4) S h hX hbl hbA hL (by omega) dL_law_201 ?_
  refine lv_aload_n S.1 S.2.1 dL_law_202 rfl (lv_at hl 1 rfl) ?_
  refine lv_iload S.1 S.2.1 dL_law_203 (lv_at hl 5 rfl) ?_
  refine lv_iconst (v := 5) S.1 S.2.1 dL_law_205 (by decide) ?_
  refine lv_iadd S.1 S.2.1 dL_law_206 ?_
  refine cv_rei (show (((nI (6 * i))) + 5) = nI (6 * i + 5) from nI_add _ _) ?_
  refine cv_sld (j := 6 * i + 5) S h hX hbl hbA hL (by omega) dL_law_207 ?_
  refine cv_calli (ci := 6) (C := RX6) (T := TX6) (N := 18) S K h hl.1 rfl rfl rfl (m_make l E σ1_ ((((((((xs (6 * i + 1)) : Int32).toInt64)) <<< ((32 : Int32).toInt64 &&& 63))) ||| ((((((xs (6 * i + 2)) : Int32).toInt64)) &&& 4294967295)))) ((xs (6 * i + 3))) ((xs (6 * i + 4))) ((xs (6 * i + 5)))) (cwV 4 S.2.2.2.2 gL_law_X6_make rfl rfl rfl (by decide +kernel) ⟨Nat.le_of_ble_eq_true rfl, Nat.le_of_ble_eq_true rfl⟩) rfl rfl (Nat.le_of_ble_eq_true rfl) hcs dL_law_208 (fun r2 σ32 H locs hm h => ?_)
  have hT := st_make C M P hk hm
  refine lv_istore (lv' := [(6, .int r2), (5, .int k), (0, .ref b), (1, .ref (E.2.1 0)), (2, .ref (E.2.1 49)), (3, .ref (E.2.1 59)), (4, .int (nI (6 * i)))]) S.1 S.2.1 dL_law_211 hl (by decide) rfl (fun ls hl => ?_)
  refine lv_aload_n S.1 S.2.1 dL_law_213 rfl (lv_at hl 4 rfl) ?_
  refine cv_calli (ci := 6) (C := RX6) (T := TX6) (N := 18) S K h hl.1 rfl rfl rfl (m_thrown l E σ32) (cwV 0 S.2.2.2.2 gL_law_X6_thrown rfl rfl rfl (by decide +kernel) ⟨Nat.le_of_ble_eq_true rfl, Nat.le_of_ble_eq_true rfl⟩) rfl rfl (Nat.le_of_ble_eq_true rfl) hcs dL_law_214 (fun r3 σ33 H locs ⟨ht, hs9⟩ h => ?_)
  rw [hs9] at h
  refine lv_iload S.1 S.2.1 dL_law_217 (lv_at hl 1 rfl) ?_
  refine lv_icmp_eq (tgt := 224) S.1 S.2.1 dL_law_219 (by decide) (fun c1 => ?_) (fun c1 => ?_)
  · refine lv_iload S.1 S.2.1 dL_law_224 (lv_at hl 1 rfl) ?_
    refine lv_if_ne (tgt := 248) S.1 S.2.1 dL_law_226 (by decide) (fun c2 => ?_) (fun c2 => ?_)
    · refine lv_goto (tgt := 1239) S.1 S.2.1 dL_law_248 (by decide) ?_
      exact ih σ32 H locs ls hT.2.2 h (lv_sub hl [2, 3, 4, 5, 6] rfl)
    · have hO := hT.2.1 c2
      refine lv_aload_n S.1 S.2.1 dL_law_229 rfl (lv_at hl 5 rfl) ?_
      refine lv_iconst (v := 0) S.1 S.2.1 dL_law_230 (by decide) ?_
      refine cv_lald S K h 59 rfl (n := 1) rfl 0 rfl (by decide) dL_law_231 ?_
      refine lv_iload S.1 S.2.1 dL_law_232 (lv_at hl 0 rfl) ?_
      refine lv_if_eq (tgt := 241) S.1 S.2.1 dL_law_234 (by decide) (fun c3 => ?_) (fun c3 => ?_)
      · refine lv_lconst (v := 0) S.1 S.2.1 dL_law_241 (by decide) ?_
        refine W.lcmp S.1 S.2.1 dL_law_242 ?_
        refine lv_if_eq (tgt := 248) S.1 S.2.1 dL_law_243 (by decide) (fun c4 => ?_) (fun c4 => ?_)
        · refine lv_goto (tgt := 1239) S.1 S.2.1 dL_law_248 (by decide) ?_
          exact ih σ32 H locs ls hT.2.2 h (lv_sub hl [2, 3, 4, 5, 6] rfl)
        · exact absurd (lg_eq0.mpr (by rw [hO, if_pos c3])) c4
      · refine lv_lconst (v := 1) S.1 S.2.1 dL_law_237 (by decide) ?_
        refine lv_goto (tgt := 242) S.1 S.2.1 dL_law_238 (by decide) ?_
        refine W.lcmp S.1 S.2.1 dL_law_242 ?_
        refine lv_if_eq (tgt := 248) S.1 S.2.1 dL_law_243 (by decide) (fun c4 => ?_) (fun c4 => ?_)
        · refine lv_goto (tgt := 1239) S.1 S.2.1 dL_law_248 (by decide) ?_
          exact ih σ32 H locs ls hT.2.2 h (lv_sub hl [2, 3, 4, 5, 6] rfl)
        · exact absurd (lg_eq0.mpr (by rw [hO, if_neg c3])) c4
  · exact absurd (ht.trans hT.1) c1

set_option maxHeartbeats 4000000 in
set_option maxRecDepth 100000 in
theorem law_open {p : Program} {l : Launch} {e : Env} {s : State} {m : MethodId} {below : List Frame} {meth : Method} {c : Code} {E : cv_E} {b L : Nat} {xs : Nat → Int32} (hst : l.stackTraces = false) (S : CallFix p m c cL_law 8 s #[Value.ref b] wsL_law RL) (K : cv_K E s) (X : cv_KX (cv_A E s.heap.size) s s.heap) (hX : va_X b L xs s s.heap) (hbl : b < s.heap.size) (hbA : ¬ cv_A E s.heap.size b) (hL : L ≤ 3072) {σ : cv_S} {H : Heap} {locs : List Loc} {ls : Array Slot} {cells slots : Nat} {Q : State → Prop} (i : Nat) (hi : 6 * i + 6 ≤ L) (hcs : cells + 2 ≤ room_1.cells ∧ slots + 6 * 2 ≤ room_1.slots) (hR : Rel σ) (h : cv_H E σ s H locs) (hl : lv_has ls 8 [(0, .ref b), (1, .ref (E.2.1 0)), (2, .ref (E.2.1 49)), (3, .ref (E.2.1 59)), (4, .int (nI (6 * i)))]) (ih : ∀ (σ' : cv_S) (H' : Heap) (locs' : List Loc) (ls' : Array Slot), Rel σ' → cv_H E σ' s H' locs' → lv_has ls' 8 [(0, .ref b), (1, .ref (E.2.1 0)), (2, .ref (E.2.1 49)), (3, .ref (E.2.1 59)), (4, .int (nI (6 * i)))] → W p l e room_1 s m #[Value.ref b] below meth c H' locs' (cells + 2) (slots + 6 * 2) Q (F0 m 1239 ls' [])) : W p l e room_1 s m #[Value.ref b] below meth c H locs cells slots Q (F0 m 251 ls []) := by
  obtain ⟨dv, op, pw0, kn0, sa0, sr0, rd0, cnt, N, O, V, C, M, P⟩ := hR
  refine lv_aload_n S.1 S.2.1 dL_law_251 rfl (lv_at hl 1 rfl) ?_
  refine lv_aload_n S.1 S.2.1 dL_law_252 rfl (lv_at hl 0 rfl) ?_
  refine lv_iload S.1 S.2.1 dL_law_253 (lv_at hl 4 rfl) ?_
  refine lv_iconst (v := 1) S.1 S.2.1 dL_law_255 (by decide) ?_
  refine lv_iadd S.1 S.2.1 dL_law_256 ?_
  refine cv_rei (show (((nI (6 * i))) + 1) = nI (6 * i + 1) from nI_add _ _) ?_
  refine cv_sld (j := 6 * i + 1) S h hX hbl hbA hL (by omega) dL_law_257 ?_
  refine lv_i2l (v := ((xs (6 * i + 1)) : Int32).toInt64) S.1 S.2.1 dL_law_258 rfl ?_
  refine lv_bipush (v := 32) S.1 S.2.1 dL_law_259 (by decide) ?_
  refine lv_lshl (v := ((((xs (6 * i + 1)) : Int32).toInt64)) <<< ((32 : Int32).toInt64 &&& 63)) S.1 S.2.1 dL_law_261 rfl ?_
  refine lv_aload_n S.1 S.2.1 dL_law_262 rfl (lv_at hl 0 rfl) ?_
  refine lv_iload S.1 S.2.1 dL_law_263 (lv_at hl 4 rfl) ?_
  refine lv_iconst (v := 2) S.1 S.2.1 dL_law_265 (by decide) ?_
  refine lv_iadd S.1 S.2.1 dL_law_266 ?_
  refine cv_rei (show (((nI (6 * i))) + 2) = nI (6 * i + 2) from nI_add _ _) ?_
  refine cv_sld (j := 6 * i + 2) S h hX hbl hbA hL (by omega) dL_law_267 ?_
  refine lv_i2l (v := ((xs (6 * i + 2)) : Int32).toInt64) S.1 S.2.1 dL_law_268 rfl ?_
  refine lv_ldc2 (v := 4294967295) S.1 S.2.1 S.2.2.2.1 (S.2.2.2.2 (.constantLong RL 77 (4294967295)) (by decide +kernel)) dL_law_269 ?_
  refine lv_land S.1 S.2.1 dL_law_272 ?_
  refine lv_lor S.1 S.2.1 dL_law_273 ?_
  refine lv_aload_n S.1 S.2.1 dL_law_274 rfl (lv_at hl 3 rfl) ?_
  refine cvh_call (hh := [(0, 9, 12, 19)]) S K X h hl.1 (h_open l E σ ((((((((xs (6 * i + 1)) : Int32).toInt64)) <<< ((32 : Int32).toInt64 &&& 63))) ||| ((((((xs (6 * i + 2)) : Int32).toInt64)) &&& 4294967295)))) (c_open l hst E σ dv C.1 ((((((((xs (6 * i + 1)) : Int32).toInt64)) <<< ((32 : Int32).toInt64 &&& 63))) ||| ((((((xs (6 * i + 2)) : Int32).toInt64)) &&& 4294967295))))) (fun nm τ z => z.1) ) (vx_cwSW 3 S.2.2.2.2 gL_law_L_open rfl rfl rfl (by decide +kernel) ⟨Nat.le_of_ble_eq_true rfl, Nat.le_of_ble_eq_true rfl⟩) rfl rfl (Nat.le_of_ble_eq_true rfl) hcs dL_law_275 (fun k σ1_ H locs hk h => ?_)
  have M1 := M.hi (fr_open (dv := dv) (op := op) (pw0 := pw0) (kn0 := kn0) (sa0 := sa0) (sr0 := sr0) (rd0 := rd0) (cnt := cnt) (N := N) (O := O) (V := V) hk)
  have hop : σ1_.2.2.1 49 2 = 0 ∨ σ1_.2.2.1 49 2 = 1 := by rw [M1.2.1]; exact P.1
  refine lv_istore (lv' := [(5, .int k), (0, .ref b), (1, .ref (E.2.1 0)), (2, .ref (E.2.1 49)), (3, .ref (E.2.1 59)), (4, .int (nI (6 * i)))]) S.1 S.2.1 dL_law_278 hl (by decide) rfl (fun ls hl => ?_)
  refine lv_aload_n S.1 S.2.1 dL_law_280 rfl (lv_at hl 3 rfl) ?_
  refine lv_aload_n S.1 S.2.1 dL_law_281 rfl (lv_at hl 1 rfl) ?_
  refine lv_iload S.1 S.2.1 dL_law_282 (lv_at hl 5 rfl) ?_
  refine lv_iconst (v := 1) S.1 S.2.1 dL_law_284 (by decide) ?_
  refine lv_iadd S.1 S.2.1 dL_law_285 ?_
  refine cv_rei (show (((nI (6 * i))) + 1) = nI (6 * i + 1) from nI_add _ _) ?_
  refine cv_sld (j := 6 * i + 1) S h hX hbl hbA hL (by omega) dL_law_286 ?_
  refine lv_i2l (v := ((xs (6 * i + 1)) : Int32).toInt64) S.1 S.2.1 dL_law_287 rfl ?_
  refine lv_bipush (v := 32) S.1 S.2.1 dL_law_288 (by decide) ?_
  refine lv_lshl (v := ((((xs (6 * i + 1)) : Int32).toInt64)) <<< ((32 : Int32).toInt64 &&& 63)) S.1 S.2.1 dL_law_290 rfl ?_
  refine lv_aload_n S.1 S.2.1 dL_law_291 rfl (lv_at hl 1 rfl) ?_
  refine lv_iload S.1 S.2.1 dL_law_292 (lv_at hl 5 rfl) ?_
  refine lv_iconst (v := 2) S.1 S.2.1 dL_law_294 (by decide) ?_
  refine lv_iadd S.1 S.2.1 dL_law_295 ?_
  refine cv_rei (show (((nI (6 * i))) + 2) = nI (6 * i + 2) from nI_add _ _) ?_
  refine cv_sld (j := 6 * i + 2) S h hX hbl hbA hL (by omega) dL_law_296 ?_
  refine lv_i2l (v := ((xs (6 * i + 2)) : Int32).toInt64) S.1 S.2.1 dL_law_297 rfl ?_
  refine lv_ldc2 (v := 4294967295) S.1 S.2.1 S.2.2.2.1 (S.2.2.2.2 (.constantLong RL 77 (4294967295)) (by decide +kernel)) dL_law_298 ?_
  refine lv_land S.1 S.2.1 dL_law_301 ?_
  refine lv_lor S.1 S.2.1 dL_law_302 ?_
  refine cv_calli (ci := 6) (C := RX6) (T := TX6) (N := 18) S K h hl.1 rfl rfl rfl (m_open l E σ1_ dv M1.1 ((((((((xs (6 * i + 1)) : Int32).toInt64)) <<< ((32 : Int32).toInt64 &&& 63))) ||| ((((((xs (6 * i + 2)) : Int32).toInt64)) &&& 4294967295))))) (cwV 1 S.2.2.2.2 gL_law_X6_open rfl rfl rfl (by decide +kernel) ⟨Nat.le_of_ble_eq_true rfl, Nat.le_of_ble_eq_true rfl⟩) rfl rfl (Nat.le_of_ble_eq_true rfl) hcs dL_law_303 (fun r2 σ34 H locs hm h => ?_)
  have hT := st_open C M P hk hm
  refine lv_istore (lv' := [(6, .int r2), (5, .int k), (0, .ref b), (1, .ref (E.2.1 0)), (2, .ref (E.2.1 49)), (3, .ref (E.2.1 59)), (4, .int (nI (6 * i)))]) S.1 S.2.1 dL_law_306 hl (by decide) rfl (fun ls hl => ?_)
  refine lv_aload_n S.1 S.2.1 dL_law_308 rfl (lv_at hl 4 rfl) ?_
  refine cv_calli (ci := 6) (C := RX6) (T := TX6) (N := 18) S K h hl.1 rfl rfl rfl (m_thrown l E σ34) (cwV 0 S.2.2.2.2 gL_law_X6_thrown rfl rfl rfl (by decide +kernel) ⟨Nat.le_of_ble_eq_true rfl, Nat.le_of_ble_eq_true rfl⟩) rfl rfl (Nat.le_of_ble_eq_true rfl) hcs dL_law_309 (fun r3 σ35 H locs ⟨ht, hs9⟩ h => ?_)
  rw [hs9] at h
  refine lv_iload S.1 S.2.1 dL_law_312 (lv_at hl 1 rfl) ?_
  refine lv_icmp_eq (tgt := 319) S.1 S.2.1 dL_law_314 (by decide) (fun c1 => ?_) (fun c1 => ?_)
  · refine lv_iload S.1 S.2.1 dL_law_319 (lv_at hl 1 rfl) ?_
    refine lv_if_ne (tgt := 336) S.1 S.2.1 dL_law_321 (by decide) (fun c2 => ?_) (fun c2 => ?_)
    · refine lv_goto (tgt := 1239) S.1 S.2.1 dL_law_336 (by decide) ?_
      exact ih σ34 H locs ls hT.2.2 h (lv_sub hl [2, 3, 4, 5, 6] rfl)
    · have hO := hT.2.1 c2
      refine lv_aload_n S.1 S.2.1 dL_law_324 rfl (lv_at hl 5 rfl) ?_
      refine lv_iconst (v := 0) S.1 S.2.1 dL_law_325 (by decide) ?_
      refine cv_lald S K h 59 rfl (n := 1) rfl 0 rfl (by decide) dL_law_326 ?_
      refine lv_iload S.1 S.2.1 dL_law_327 (lv_at hl 0 rfl) ?_
      refine lv_i2l (v := (r2 : Int32).toInt64) S.1 S.2.1 dL_law_329 rfl ?_
      refine W.lcmp S.1 S.2.1 dL_law_330 ?_
      refine lv_if_eq (tgt := 336) S.1 S.2.1 dL_law_331 (by decide) (fun c4 => ?_) (fun c4 => ?_)
      · refine lv_goto (tgt := 1239) S.1 S.2.1 dL_law_336 (by decide) ?_
        exact ih σ34 H locs ls hT.2.2 h (lv_sub hl [2, 3, 4, 5, 6] rfl)
      · exact absurd (lg_eq0.mpr (hO)) c4
  · exact absurd (ht.trans hT.1) c1

set_option maxHeartbeats 4000000 in
set_option maxRecDepth 100000 in
theorem law_length {p : Program} {l : Launch} {e : Env} {s : State} {m : MethodId} {below : List Frame} {meth : Method} {c : Code} {E : cv_E} {b L : Nat} {xs : Nat → Int32} (hst : l.stackTraces = false) (S : CallFix p m c cL_law 8 s #[Value.ref b] wsL_law RL) (K : cv_K E s) (X : cv_KX (cv_A E s.heap.size) s s.heap) (hX : va_X b L xs s s.heap) (hbl : b < s.heap.size) (hbA : ¬ cv_A E s.heap.size b) (hL : L ≤ 3072) {σ : cv_S} {H : Heap} {locs : List Loc} {ls : Array Slot} {cells slots : Nat} {Q : State → Prop} (i : Nat) (hi : 6 * i + 6 ≤ L) (hcs : cells + 2 ≤ room_1.cells ∧ slots + 6 * 2 ≤ room_1.slots) (hR : Rel σ) (h : cv_H E σ s H locs) (hl : lv_has ls 8 [(0, .ref b), (1, .ref (E.2.1 0)), (2, .ref (E.2.1 49)), (3, .ref (E.2.1 59)), (4, .int (nI (6 * i)))]) (ih : ∀ (σ' : cv_S) (H' : Heap) (locs' : List Loc) (ls' : Array Slot), Rel σ' → cv_H E σ' s H' locs' → lv_has ls' 8 [(0, .ref b), (1, .ref (E.2.1 0)), (2, .ref (E.2.1 49)), (3, .ref (E.2.1 59)), (4, .int (nI (6 * i)))] → W p l e room_1 s m #[Value.ref b] below meth c H' locs' (cells + 2) (slots + 6 * 2) Q (F0 m 1239 ls' [])) : W p l e room_1 s m #[Value.ref b] below meth c H locs cells slots Q (F0 m 365 ls []) := by
  obtain ⟨dv, op, pw0, kn0, sa0, sr0, rd0, cnt, N, O, V, C, M, P⟩ := hR
  refine lv_aload_n S.1 S.2.1 dL_law_365 rfl (lv_at hl 1 rfl) ?_
  refine lv_aload_n S.1 S.2.1 dL_law_366 rfl (lv_at hl 3 rfl) ?_
  refine cvh_call (hh := [(0, 8, 11, 25)]) S K X h hl.1 (h_length l E σ  (c_length l hst E σ op P.1 C.2.1 cnt N O V (fun o => (C.2.2 o).2.2.2.2.2)) (fun nm τ z => z.1) ) (vx_cwSW 2 S.2.2.2.2 gL_law_L_length rfl rfl rfl (by decide +kernel) ⟨Nat.le_of_ble_eq_true rfl, Nat.le_of_ble_eq_true rfl⟩) rfl rfl (Nat.le_of_ble_eq_true rfl) hcs dL_law_367 (fun k σ1_ H locs hk h => ?_)
  have M1 := M.hi (fr_length (dv := dv) (op := op) (pw := pw0) (kn := kn0) (sa := sa0) (sr := sr0) (rd := rd0) (cnt := cnt) (N := N) (O := O) (V := V) hk)
  have hop : σ1_.2.2.1 49 2 = 0 ∨ σ1_.2.2.1 49 2 = 1 := by rw [M1.2.1]; exact P.1
  refine lv_istore (lv' := [(5, .int k), (0, .ref b), (1, .ref (E.2.1 0)), (2, .ref (E.2.1 49)), (3, .ref (E.2.1 59)), (4, .int (nI (6 * i)))]) S.1 S.2.1 dL_law_370 hl (by decide) rfl (fun ls hl => ?_)
  refine lv_aload_n S.1 S.2.1 dL_law_372 rfl (lv_at hl 3 rfl) ?_
  refine cv_calli (ci := 6) (C := RX6) (T := TX6) (N := 18) S K h hl.1 rfl rfl rfl (m_length l E σ1_ hop cnt N O V (fun o => (M1.2.2.2.2 (M1.2.1.symm.trans o)).2.2.2.2.2)) (cwV 0 S.2.2.2.2 gL_law_X6_length rfl rfl rfl (by decide +kernel) ⟨Nat.le_of_ble_eq_true rfl, Nat.le_of_ble_eq_true rfl⟩) rfl rfl (Nat.le_of_ble_eq_true rfl) hcs dL_law_373 (fun r2 σ36 H locs hm h => ?_)
  have hT := st_length C M P hk hm
  refine lv_istore (lv' := [(6, .int r2), (5, .int k), (0, .ref b), (1, .ref (E.2.1 0)), (2, .ref (E.2.1 49)), (3, .ref (E.2.1 59)), (4, .int (nI (6 * i)))]) S.1 S.2.1 dL_law_376 hl (by decide) rfl (fun ls hl => ?_)
  refine lv_aload_n S.1 S.2.1 dL_law_378 rfl (lv_at hl 4 rfl) ?_
  refine cv_calli (ci := 6) (C := RX6) (T := TX6) (N := 18) S K h hl.1 rfl rfl rfl (m_thrown l E σ36) (cwV 0 S.2.2.2.2 gL_law_X6_thrown rfl rfl rfl (by decide +kernel) ⟨Nat.le_of_ble_eq_true rfl, Nat.le_of_ble_eq_true rfl⟩) rfl rfl (Nat.le_of_ble_eq_true rfl) hcs dL_law_379 (fun r3 σ37 H locs ⟨ht, hs9⟩ h => ?_)
  rw [hs9] at h
  refine lv_iload S.1 S.2.1 dL_law_382 (lv_at hl 1 rfl) ?_
  refine lv_icmp_eq (tgt := 389) S.1 S.2.1 dL_law_384 (by decide) (fun c1 => ?_) (fun c1 => ?_)
  · refine lv_iload S.1 S.2.1 dL_law_389 (lv_at hl 1 rfl) ?_
    refine lv_if_ne (tgt := 406) S.1 S.2.1 dL_law_391 (by decide) (fun c2 => ?_) (fun c2 => ?_)
    · refine lv_goto (tgt := 1239) S.1 S.2.1 dL_law_406 (by decide) ?_
      exact ih σ36 H locs ls hT.2.2 h (lv_sub hl [2, 3, 4, 5, 6] rfl)
    · have hO := hT.2.1 c2
      refine lv_aload_n S.1 S.2.1 dL_law_394 rfl (lv_at hl 5 rfl) ?_
      refine lv_iconst (v := 0) S.1 S.2.1 dL_law_395 (by decide) ?_
      refine cv_lald S K h 59 rfl (n := 1) rfl 0 rfl (by decide) dL_law_396 ?_
      refine lv_iload S.1 S.2.1 dL_law_397 (lv_at hl 0 rfl) ?_
      refine lv_i2l (v := (r2 : Int32).toInt64) S.1 S.2.1 dL_law_399 rfl ?_
      refine W.lcmp S.1 S.2.1 dL_law_400 ?_
      refine lv_if_eq (tgt := 406) S.1 S.2.1 dL_law_401 (by decide) (fun c4 => ?_) (fun c4 => ?_)
      · refine lv_goto (tgt := 1239) S.1 S.2.1 dL_law_406 (by decide) ?_
        exact ih σ36 H locs ls hT.2.2 h (lv_sub hl [2, 3, 4, 5, 6] rfl)
      · exact absurd (lg_eq0.mpr (hO)) c4
  · exact absurd (ht.trans hT.1) c1

set_option maxHeartbeats 4000000 in
set_option maxRecDepth 100000 in
theorem law_save {p : Program} {l : Launch} {e : Env} {s : State} {m : MethodId} {below : List Frame} {meth : Method} {c : Code} {E : cv_E} {b L : Nat} {xs : Nat → Int32} (hst : l.stackTraces = false) (S : CallFix p m c cL_law 8 s #[Value.ref b] wsL_law RL) (K : cv_K E s) (X : cv_KX (cv_A E s.heap.size) s s.heap) (hX : va_X b L xs s s.heap) (hbl : b < s.heap.size) (hbA : ¬ cv_A E s.heap.size b) (hL : L ≤ 3072) {σ : cv_S} {H : Heap} {locs : List Loc} {ls : Array Slot} {cells slots : Nat} {Q : State → Prop} (i : Nat) (hi : 6 * i + 6 ≤ L) (hcs : cells + 2 ≤ room_1.cells ∧ slots + 6 * 2 ≤ room_1.slots) (hR : Rel σ) (h : cv_H E σ s H locs) (hl : lv_has ls 8 [(0, .ref b), (1, .ref (E.2.1 0)), (2, .ref (E.2.1 49)), (3, .ref (E.2.1 59)), (4, .int (nI (6 * i)))]) (ih : ∀ (σ' : cv_S) (H' : Heap) (locs' : List Loc) (ls' : Array Slot), Rel σ' → cv_H E σ' s H' locs' → lv_has ls' 8 [(0, .ref b), (1, .ref (E.2.1 0)), (2, .ref (E.2.1 49)), (3, .ref (E.2.1 59)), (4, .int (nI (6 * i)))] → W p l e room_1 s m #[Value.ref b] below meth c H' locs' (cells + 2) (slots + 6 * 2) Q (F0 m 1239 ls' [])) : W p l e room_1 s m #[Value.ref b] below meth c H locs cells slots Q (F0 m 409 ls []) := by
  obtain ⟨dv, op, pw0, kn0, sa0, sr0, rd0, cnt, N, O, V, C, M, P⟩ := hR
  refine lv_aload_n S.1 S.2.1 dL_law_409 rfl (lv_at hl 1 rfl) ?_
  refine lv_aload_n S.1 S.2.1 dL_law_410 rfl (lv_at hl 0 rfl) ?_
  refine lv_iload S.1 S.2.1 dL_law_411 (lv_at hl 4 rfl) ?_
  refine lv_iconst (v := 1) S.1 S.2.1 dL_law_413 (by decide) ?_
  refine lv_iadd S.1 S.2.1 dL_law_414 ?_
  refine cv_rei (show (((nI (6 * i))) + 1) = nI (6 * i + 1) from nI_add _ _) ?_
  refine cv_sld (j := 6 * i + 1) S h hX hbl hbA hL (by omega) dL_law_415 ?_
  refine lv_aload_n S.1 S.2.1 dL_law_416 rfl (lv_at hl 3 rfl) ?_
  refine cvh_call (hh := [(0, 16, 19, 25), (0, 16, 22, 13)]) S K X h hl.1 (h_save l E σ ((xs (6 * i + 1))) (c_save l hst E σ op P.1 C.2.1 dv C.1 pw0 kn0 sa0 sr0 rd0 cnt N O V (fun o => ⟨(P.2 o).2.1, C.2.2 o⟩) ((xs (6 * i + 1)))) (fun nm τ z => z.elim (fun z => Or.inl z.1) (fun z => Or.inr z.1)) (fun r τ ⟨_, _, _, _, _, _, _, _, z⟩ => scM01 z)) (vx_cwSW 3 S.2.2.2.2 gL_law_L_save rfl rfl rfl (by decide +kernel) ⟨Nat.le_of_ble_eq_true rfl, Nat.le_of_ble_eq_true rfl⟩) rfl rfl (Nat.le_of_ble_eq_true rfl) hcs dL_law_417 (fun k σ1_ H locs hk h => ?_)
  have M1 := M.hi (fr_save (dv := dv) (op := op) (pw := pw0) (kn := kn0) (sa := sa0) (sr := sr0) (rd := rd0) (cnt := cnt) (N := N) (O := O) (V := V) hk)
  have hop : σ1_.2.2.1 49 2 = 0 ∨ σ1_.2.2.1 49 2 = 1 := by rw [M1.2.1]; exact P.1
  refine lv_istore (lv' := [(5, .int k), (0, .ref b), (1, .ref (E.2.1 0)), (2, .ref (E.2.1 49)), (3, .ref (E.2.1 59)), (4, .int (nI (6 * i)))]) S.1 S.2.1 dL_law_420 hl (by decide) rfl (fun ls hl => ?_)
  refine lv_aload_n S.1 S.2.1 dL_law_422 rfl (lv_at hl 3 rfl) ?_
  refine lv_aload_n S.1 S.2.1 dL_law_423 rfl (lv_at hl 1 rfl) ?_
  refine lv_iload S.1 S.2.1 dL_law_424 (lv_at hl 5 rfl) ?_
  refine lv_iconst (v := 1) S.1 S.2.1 dL_law_426 (by decide) ?_
  refine lv_iadd S.1 S.2.1 dL_law_427 ?_
  refine cv_rei (show (((nI (6 * i))) + 1) = nI (6 * i + 1) from nI_add _ _) ?_
  refine cv_sld (j := 6 * i + 1) S h hX hbl hbA hL (by omega) dL_law_428 ?_
  refine cv_calli (ci := 6) (C := RX6) (T := TX6) (N := 18) S K h hl.1 rfl rfl rfl (m_save l E σ1_ hop dv M1.1 pw0 kn0 sa0 sr0 rd0 cnt N O V (fun o => ⟨(P.2 (M1.2.1.symm.trans o)).2.1, M1.2.2.2.2 (M1.2.1.symm.trans o)⟩) ((xs (6 * i + 1)))) (cwV 1 S.2.2.2.2 gL_law_X6_save rfl rfl rfl (by decide +kernel) ⟨Nat.le_of_ble_eq_true rfl, Nat.le_of_ble_eq_true rfl⟩) rfl rfl (Nat.le_of_ble_eq_true rfl) hcs dL_law_429 (fun r2 σ38 H locs hm h => ?_)
  have hT := st_save C M P hk hm
  refine lv_istore (lv' := [(6, .int r2), (5, .int k), (0, .ref b), (1, .ref (E.2.1 0)), (2, .ref (E.2.1 49)), (3, .ref (E.2.1 59)), (4, .int (nI (6 * i)))]) S.1 S.2.1 dL_law_432 hl (by decide) rfl (fun ls hl => ?_)
  refine lv_aload_n S.1 S.2.1 dL_law_434 rfl (lv_at hl 4 rfl) ?_
  refine cv_calli (ci := 6) (C := RX6) (T := TX6) (N := 18) S K h hl.1 rfl rfl rfl (m_thrown l E σ38) (cwV 0 S.2.2.2.2 gL_law_X6_thrown rfl rfl rfl (by decide +kernel) ⟨Nat.le_of_ble_eq_true rfl, Nat.le_of_ble_eq_true rfl⟩) rfl rfl (Nat.le_of_ble_eq_true rfl) hcs dL_law_435 (fun r3 σ39 H locs ⟨ht, hs9⟩ h => ?_)
  rw [hs9] at h
  refine lv_iload S.1 S.2.1 dL_law_438 (lv_at hl 1 rfl) ?_
  refine lv_icmp_eq (tgt := 445) S.1 S.2.1 dL_law_440 (by decide) (fun c1 => ?_) (fun c1 => ?_)
  · refine lv_iload S.1 S.2.1 dL_law_445 (lv_at hl 1 rfl) ?_
    refine lv_if_ne (tgt := 469) S.1 S.2.1 dL_law_447 (by decide) (fun c2 => ?_) (fun c2 => ?_)
    · refine lv_goto (tgt := 1239) S.1 S.2.1 dL_law_469 (by decide) ?_
      exact ih σ38 H locs ls hT.2.2 h (lv_sub hl [2, 3, 4, 5, 6] rfl)
    · have hO := hT.2.1 c2
      refine lv_aload_n S.1 S.2.1 dL_law_450 rfl (lv_at hl 5 rfl) ?_
      refine lv_iconst (v := 0) S.1 S.2.1 dL_law_451 (by decide) ?_
      refine cv_lald S K h 59 rfl (n := 1) rfl 0 rfl (by decide) dL_law_452 ?_
      refine lv_iload S.1 S.2.1 dL_law_453 (lv_at hl 0 rfl) ?_
      refine lv_if_eq (tgt := 462) S.1 S.2.1 dL_law_455 (by decide) (fun c3 => ?_) (fun c3 => ?_)
      · refine lv_lconst (v := 0) S.1 S.2.1 dL_law_462 (by decide) ?_
        refine W.lcmp S.1 S.2.1 dL_law_463 ?_
        refine lv_if_eq (tgt := 469) S.1 S.2.1 dL_law_464 (by decide) (fun c4 => ?_) (fun c4 => ?_)
        · refine lv_goto (tgt := 1239) S.1 S.2.1 dL_law_469 (by decide) ?_
          exact ih σ38 H locs ls hT.2.2 h (lv_sub hl [2, 3, 4, 5, 6] rfl)
        · exact absurd (lg_eq0.mpr (by rw [hO, if_pos c3])) c4
      · refine lv_lconst (v := 1) S.1 S.2.1 dL_law_458 (by decide) ?_
        refine lv_goto (tgt := 463) S.1 S.2.1 dL_law_459 (by decide) ?_
        refine W.lcmp S.1 S.2.1 dL_law_463 ?_
        refine lv_if_eq (tgt := 469) S.1 S.2.1 dL_law_464 (by decide) (fun c4 => ?_) (fun c4 => ?_)
        · refine lv_goto (tgt := 1239) S.1 S.2.1 dL_law_469 (by decide) ?_
          exact ih σ38 H locs ls hT.2.2 h (lv_sub hl [2, 3, 4, 5, 6] rfl)
        · exact absurd (lg_eq0.mpr (by rw [hO, if_neg c3])) c4
  · exact absurd (ht.trans hT.1) c1

set_option maxHeartbeats 4000000 in
set_option maxRecDepth 100000 in
theorem law_renew {p : Program} {l : Launch} {e : Env} {s : State} {m : MethodId} {below : List Frame} {meth : Method} {c : Code} {E : cv_E} {b L : Nat} {xs : Nat → Int32} (hst : l.stackTraces = false) (S : CallFix p m c cL_law 8 s #[Value.ref b] wsL_law RL) (K : cv_K E s) (X : cv_KX (cv_A E s.heap.size) s s.heap) (hX : va_X b L xs s s.heap) (hbl : b < s.heap.size) (hbA : ¬ cv_A E s.heap.size b) (hL : L ≤ 3072) {σ : cv_S} {H : Heap} {locs : List Loc} {ls : Array Slot} {cells slots : Nat} {Q : State → Prop} (i : Nat) (hi : 6 * i + 6 ≤ L) (hcs : cells + 2 ≤ room_1.cells ∧ slots + 6 * 2 ≤ room_1.slots) (hR : Rel σ) (h : cv_H E σ s H locs) (hl : lv_has ls 8 [(0, .ref b), (1, .ref (E.2.1 0)), (2, .ref (E.2.1 49)), (3, .ref (E.2.1 59)), (4, .int (nI (6 * i)))]) (ih : ∀ (σ' : cv_S) (H' : Heap) (locs' : List Loc) (ls' : Array Slot), Rel σ' → cv_H E σ' s H' locs' → lv_has ls' 8 [(0, .ref b), (1, .ref (E.2.1 0)), (2, .ref (E.2.1 49)), (3, .ref (E.2.1 59)), (4, .int (nI (6 * i)))] → W p l e room_1 s m #[Value.ref b] below meth c H' locs' (cells + 2) (slots + 6 * 2) Q (F0 m 1239 ls' [])) : W p l e room_1 s m #[Value.ref b] below meth c H locs cells slots Q (F0 m 472 ls []) := by
  obtain ⟨dv, op, pw0, kn0, sa0, sr0, rd0, cnt, N, O, V, C, M, P⟩ := hR
  refine lv_aload_n S.1 S.2.1 dL_law_472 rfl (lv_at hl 1 rfl) ?_
  refine lv_aload_n S.1 S.2.1 dL_law_473 rfl (lv_at hl 0 rfl) ?_
  refine lv_iload S.1 S.2.1 dL_law_474 (lv_at hl 4 rfl) ?_
  refine lv_iconst (v := 1) S.1 S.2.1 dL_law_476 (by decide) ?_
  refine lv_iadd S.1 S.2.1 dL_law_477 ?_
  refine cv_rei (show (((nI (6 * i))) + 1) = nI (6 * i + 1) from nI_add _ _) ?_
  refine cv_sld (j := 6 * i + 1) S h hX hbl hbA hL (by omega) dL_law_478 ?_
  refine lv_i2l (v := ((xs (6 * i + 1)) : Int32).toInt64) S.1 S.2.1 dL_law_479 rfl ?_
  refine lv_bipush (v := 32) S.1 S.2.1 dL_law_480 (by decide) ?_
  refine lv_lshl (v := ((((xs (6 * i + 1)) : Int32).toInt64)) <<< ((32 : Int32).toInt64 &&& 63)) S.1 S.2.1 dL_law_482 rfl ?_
  refine lv_aload_n S.1 S.2.1 dL_law_483 rfl (lv_at hl 0 rfl) ?_
  refine lv_iload S.1 S.2.1 dL_law_484 (lv_at hl 4 rfl) ?_
  refine lv_iconst (v := 2) S.1 S.2.1 dL_law_486 (by decide) ?_
  refine lv_iadd S.1 S.2.1 dL_law_487 ?_
  refine cv_rei (show (((nI (6 * i))) + 2) = nI (6 * i + 2) from nI_add _ _) ?_
  refine cv_sld (j := 6 * i + 2) S h hX hbl hbA hL (by omega) dL_law_488 ?_
  refine lv_i2l (v := ((xs (6 * i + 2)) : Int32).toInt64) S.1 S.2.1 dL_law_489 rfl ?_
  refine lv_ldc2 (v := 4294967295) S.1 S.2.1 S.2.2.2.1 (S.2.2.2.2 (.constantLong RL 77 (4294967295)) (by decide +kernel)) dL_law_490 ?_
  refine lv_land S.1 S.2.1 dL_law_493 ?_
  refine lv_lor S.1 S.2.1 dL_law_494 ?_
  refine lv_aload_n S.1 S.2.1 dL_law_495 rfl (lv_at hl 0 rfl) ?_
  refine lv_iload S.1 S.2.1 dL_law_496 (lv_at hl 4 rfl) ?_
  refine lv_iconst (v := 3) S.1 S.2.1 dL_law_498 (by decide) ?_
  refine lv_iadd S.1 S.2.1 dL_law_499 ?_
  refine cv_rei (show (((nI (6 * i))) + 3) = nI (6 * i + 3) from nI_add _ _) ?_
  refine cv_sld (j := 6 * i + 3) S h hX hbl hbA hL (by omega) dL_law_500 ?_
  refine cvh_call (hh := [(0, 6, 9, 25), (0, 6, 13, 13)]) S K X h hl.1 (h_renew l E σ ((((((((xs (6 * i + 1)) : Int32).toInt64)) <<< ((32 : Int32).toInt64 &&& 63))) ||| ((((((xs (6 * i + 2)) : Int32).toInt64)) &&& 4294967295)))) ((xs (6 * i + 3))) (c_renew l hst E σ op P.1 C.2.1 ((((((((xs (6 * i + 1)) : Int32).toInt64)) <<< ((32 : Int32).toInt64 &&& 63))) ||| ((((((xs (6 * i + 2)) : Int32).toInt64)) &&& 4294967295)))) ((xs (6 * i + 3)))) (fun nm τ z => z.elim (fun z => Or.inl z.1) (fun z => Or.inr z.1)) ) (vx_cwSW 3 S.2.2.2.2 gL_law_L_renew rfl rfl rfl (by decide +kernel) ⟨Nat.le_of_ble_eq_true rfl, Nat.le_of_ble_eq_true rfl⟩) rfl rfl (Nat.le_of_ble_eq_true rfl) hcs dL_law_501 (fun k σ1_ H locs hk h => ?_)
  have M1 := M.hi (fr_renew (dv := dv) (op := op) (pw0 := pw0) (kn0 := kn0) (sa0 := sa0) (sr0 := sr0) (rd0 := rd0) (cnt := cnt) (N := N) (O := O) (V := V) hk)
  have hop : σ1_.2.2.1 49 2 = 0 ∨ σ1_.2.2.1 49 2 = 1 := by rw [M1.2.1]; exact P.1
  refine lv_istore (lv' := [(5, .int k), (0, .ref b), (1, .ref (E.2.1 0)), (2, .ref (E.2.1 49)), (3, .ref (E.2.1 59)), (4, .int (nI (6 * i)))]) S.1 S.2.1 dL_law_504 hl (by decide) rfl (fun ls hl => ?_)
  refine lv_aload_n S.1 S.2.1 dL_law_506 rfl (lv_at hl 3 rfl) ?_
  refine lv_aload_n S.1 S.2.1 dL_law_507 rfl (lv_at hl 1 rfl) ?_
  refine lv_iload S.1 S.2.1 dL_law_508 (lv_at hl 5 rfl) ?_
  refine lv_iconst (v := 1) S.1 S.2.1 dL_law_510 (by decide) ?_
  refine lv_iadd S.1 S.2.1 dL_law_511 ?_
  refine cv_rei (show (((nI (6 * i))) + 1) = nI (6 * i + 1) from nI_add _ _) ?_
  refine cv_sld (j := 6 * i + 1) S h hX hbl hbA hL (by omega) dL_law_512 ?_
  refine lv_i2l (v := ((xs (6 * i + 1)) : Int32).toInt64) S.1 S.2.1 dL_law_513 rfl ?_
  refine lv_bipush (v := 32) S.1 S.2.1 dL_law_514 (by decide) ?_
  refine lv_lshl (v := ((((xs (6 * i + 1)) : Int32).toInt64)) <<< ((32 : Int32).toInt64 &&& 63)) S.1 S.2.1 dL_law_516 rfl ?_
  refine lv_aload_n S.1 S.2.1 dL_law_517 rfl (lv_at hl 1 rfl) ?_
  refine lv_iload S.1 S.2.1 dL_law_518 (lv_at hl 5 rfl) ?_
  refine lv_iconst (v := 2) S.1 S.2.1 dL_law_520 (by decide) ?_
  refine lv_iadd S.1 S.2.1 dL_law_521 ?_
  refine cv_rei (show (((nI (6 * i))) + 2) = nI (6 * i + 2) from nI_add _ _) ?_
  refine cv_sld (j := 6 * i + 2) S h hX hbl hbA hL (by omega) dL_law_522 ?_
  refine lv_i2l (v := ((xs (6 * i + 2)) : Int32).toInt64) S.1 S.2.1 dL_law_523 rfl ?_
  refine lv_ldc2 (v := 4294967295) S.1 S.2.1 S.2.2.2.1 (S.2.2.2.2 (.constantLong RL 77 (4294967295)) (by decide +kernel)) dL_law_524 ?_
  refine lv_land S.1 S.2.1 dL_law_527 ?_
  refine lv_lor S.1 S.2.1 dL_law_528 ?_
  refine lv_aload_n S.1 S.2.1 dL_law_529 rfl (lv_at hl 1 rfl) ?_
  refine lv_iload S.1 S.2.1 dL_law_530 (lv_at hl 5 rfl) ?_
  refine lv_iconst (v := 3) S.1 S.2.1 dL_law_532 (by decide) ?_
  refine lv_iadd S.1 S.2.1 dL_law_533 ?_
  refine cv_rei (show (((nI (6 * i))) + 3) = nI (6 * i + 3) from nI_add _ _) ?_
  refine cv_sld (j := 6 * i + 3) S h hX hbl hbA hL (by omega) dL_law_534 ?_
  refine cv_callv (ci := 6) (C := RX6) (T := TX6) (N := 18) S K h hl.1 rfl rfl rfl (m_renew l E σ1_ hop ((((((((xs (6 * i + 1)) : Int32).toInt64)) <<< ((32 : Int32).toInt64 &&& 63))) ||| ((((((xs (6 * i + 2)) : Int32).toInt64)) &&& 4294967295)))) ((xs (6 * i + 3)))) (cwV 2 S.2.2.2.2 gL_law_X6_renew rfl rfl rfl (by decide +kernel) ⟨Nat.le_of_ble_eq_true rfl, Nat.le_of_ble_eq_true rfl⟩) rfl rfl (Nat.le_of_ble_eq_true rfl) hcs dL_law_535 (fun σ40 H locs hm h => ?_)
  have hT := st_renew C M P hk hm
  refine lv_aload_n S.1 S.2.1 dL_law_538 rfl (lv_at hl 3 rfl) ?_
  refine cv_calli (ci := 6) (C := RX6) (T := TX6) (N := 18) S K h hl.1 rfl rfl rfl (m_thrown l E σ40) (cwV 0 S.2.2.2.2 gL_law_X6_thrown rfl rfl rfl (by decide +kernel) ⟨Nat.le_of_ble_eq_true rfl, Nat.le_of_ble_eq_true rfl⟩) rfl rfl (Nat.le_of_ble_eq_true rfl) hcs dL_law_539 (fun r3 σ41 H locs ⟨ht, hs9⟩ h => ?_)
  rw [hs9] at h
  refine lv_iload S.1 S.2.1 dL_law_542 (lv_at hl 0 rfl) ?_
  refine lv_icmp_eq (tgt := 549) S.1 S.2.1 dL_law_544 (by decide) (fun c1 => ?_) (fun c1 => ?_)
  · refine lv_goto (tgt := 1239) S.1 S.2.1 dL_law_549 (by decide) ?_
    exact ih σ40 H locs ls hT.2 h (lv_sub hl [1, 2, 3, 4, 5] rfl)
  · exact absurd (ht.trans hT.1) c1

set_option maxHeartbeats 4000000 in
set_option maxRecDepth 100000 in
theorem law_serial {p : Program} {l : Launch} {e : Env} {s : State} {m : MethodId} {below : List Frame} {meth : Method} {c : Code} {E : cv_E} {b L : Nat} {xs : Nat → Int32} (hst : l.stackTraces = false) (S : CallFix p m c cL_law 8 s #[Value.ref b] wsL_law RL) (K : cv_K E s) (X : cv_KX (cv_A E s.heap.size) s s.heap) (hX : va_X b L xs s s.heap) (hbl : b < s.heap.size) (hbA : ¬ cv_A E s.heap.size b) (hL : L ≤ 3072) {σ : cv_S} {H : Heap} {locs : List Loc} {ls : Array Slot} {cells slots : Nat} {Q : State → Prop} (i : Nat) (hi : 6 * i + 6 ≤ L) (hcs : cells + 2 ≤ room_1.cells ∧ slots + 6 * 2 ≤ room_1.slots) (hR : Rel σ) (h : cv_H E σ s H locs) (hl : lv_has ls 8 [(0, .ref b), (1, .ref (E.2.1 0)), (2, .ref (E.2.1 49)), (3, .ref (E.2.1 59)), (4, .int (nI (6 * i)))]) (ih : ∀ (σ' : cv_S) (H' : Heap) (locs' : List Loc) (ls' : Array Slot), Rel σ' → cv_H E σ' s H' locs' → lv_has ls' 8 [(0, .ref b), (1, .ref (E.2.1 0)), (2, .ref (E.2.1 49)), (3, .ref (E.2.1 59)), (4, .int (nI (6 * i)))] → W p l e room_1 s m #[Value.ref b] below meth c H' locs' (cells + 2) (slots + 6 * 2) Q (F0 m 1239 ls' [])) : W p l e room_1 s m #[Value.ref b] below meth c H locs cells slots Q (F0 m 552 ls []) := by
  obtain ⟨dv, op, pw0, kn0, sa0, sr0, rd0, cnt, N, O, V, C, M, P⟩ := hR
  refine lv_aload_n S.1 S.2.1 dL_law_552 rfl (lv_at hl 1 rfl) ?_
  refine lv_aload_n S.1 S.2.1 dL_law_553 rfl (lv_at hl 3 rfl) ?_
  refine cvh_call (hh := [(0, 8, 11, 25)]) S K X h hl.1 (h_serial l E σ  (c_serial l hst E σ op P.1 C.2.1) (fun nm τ z => z.1) ) (vx_cwSW 2 S.2.2.2.2 gL_law_L_serial rfl rfl rfl (by decide +kernel) ⟨Nat.le_of_ble_eq_true rfl, Nat.le_of_ble_eq_true rfl⟩) rfl rfl (Nat.le_of_ble_eq_true rfl) hcs dL_law_554 (fun k σ1_ H locs hk h => ?_)
  have M1 := M.hi (fr_serial (dv := dv) (op := op) (pw := pw0) (kn := kn0) (sa := sa0) (sr := sr0) (rd := rd0) (cnt := cnt) (N := N) (O := O) (V := V) hk)
  have hop : σ1_.2.2.1 49 2 = 0 ∨ σ1_.2.2.1 49 2 = 1 := by rw [M1.2.1]; exact P.1
  refine lv_istore (lv' := [(5, .int k), (0, .ref b), (1, .ref (E.2.1 0)), (2, .ref (E.2.1 49)), (3, .ref (E.2.1 59)), (4, .int (nI (6 * i)))]) S.1 S.2.1 dL_law_557 hl (by decide) rfl (fun ls hl => ?_)
  refine lv_aload_n S.1 S.2.1 dL_law_559 rfl (lv_at hl 3 rfl) ?_
  refine cv_calli (ci := 6) (C := RX6) (T := TX6) (N := 18) S K h hl.1 rfl rfl rfl (m_serial l E σ1_ hop) (cwV 0 S.2.2.2.2 gL_law_X6_serial rfl rfl rfl (by decide +kernel) ⟨Nat.le_of_ble_eq_true rfl, Nat.le_of_ble_eq_true rfl⟩) rfl rfl (Nat.le_of_ble_eq_true rfl) hcs dL_law_560 (fun r2 σ42 H locs hm h => ?_)
  have hT := st_serial C M P hk hm
  refine lv_istore (lv' := [(6, .int r2), (5, .int k), (0, .ref b), (1, .ref (E.2.1 0)), (2, .ref (E.2.1 49)), (3, .ref (E.2.1 59)), (4, .int (nI (6 * i)))]) S.1 S.2.1 dL_law_563 hl (by decide) rfl (fun ls hl => ?_)
  refine lv_aload_n S.1 S.2.1 dL_law_565 rfl (lv_at hl 4 rfl) ?_
  refine cv_calli (ci := 6) (C := RX6) (T := TX6) (N := 18) S K h hl.1 rfl rfl rfl (m_thrown l E σ42) (cwV 0 S.2.2.2.2 gL_law_X6_thrown rfl rfl rfl (by decide +kernel) ⟨Nat.le_of_ble_eq_true rfl, Nat.le_of_ble_eq_true rfl⟩) rfl rfl (Nat.le_of_ble_eq_true rfl) hcs dL_law_566 (fun r3 σ43 H locs ⟨ht, hs9⟩ h => ?_)
  rw [hs9] at h
  refine lv_iload S.1 S.2.1 dL_law_569 (lv_at hl 1 rfl) ?_
  refine lv_icmp_eq (tgt := 576) S.1 S.2.1 dL_law_571 (by decide) (fun c1 => ?_) (fun c1 => ?_)
  · refine lv_iload S.1 S.2.1 dL_law_576 (lv_at hl 1 rfl) ?_
    refine lv_if_ne (tgt := 593) S.1 S.2.1 dL_law_578 (by decide) (fun c2 => ?_) (fun c2 => ?_)
    · refine lv_goto (tgt := 1239) S.1 S.2.1 dL_law_593 (by decide) ?_
      exact ih σ42 H locs ls hT.2.2 h (lv_sub hl [2, 3, 4, 5, 6] rfl)
    · have hO := hT.2.1 c2
      refine lv_aload_n S.1 S.2.1 dL_law_581 rfl (lv_at hl 5 rfl) ?_
      refine lv_iconst (v := 0) S.1 S.2.1 dL_law_582 (by decide) ?_
      refine cv_lald S K h 59 rfl (n := 1) rfl 0 rfl (by decide) dL_law_583 ?_
      refine lv_iload S.1 S.2.1 dL_law_584 (lv_at hl 0 rfl) ?_
      refine lv_i2l (v := (r2 : Int32).toInt64) S.1 S.2.1 dL_law_586 rfl ?_
      refine W.lcmp S.1 S.2.1 dL_law_587 ?_
      refine lv_if_eq (tgt := 593) S.1 S.2.1 dL_law_588 (by decide) (fun c4 => ?_) (fun c4 => ?_)
      · refine lv_goto (tgt := 1239) S.1 S.2.1 dL_law_593 (by decide) ?_
        exact ih σ42 H locs ls hT.2.2 h (lv_sub hl [2, 3, 4, 5, 6] rfl)
      · exact absurd (lg_eq0.mpr (hO)) c4
  · exact absurd (ht.trans hT.1) c1

set_option maxHeartbeats 4000000 in
set_option maxRecDepth 100000 in
theorem law_put {p : Program} {l : Launch} {e : Env} {s : State} {m : MethodId} {below : List Frame} {meth : Method} {c : Code} {E : cv_E} {b L : Nat} {xs : Nat → Int32} (hst : l.stackTraces = false) (S : CallFix p m c cL_law 8 s #[Value.ref b] wsL_law RL) (K : cv_K E s) (X : cv_KX (cv_A E s.heap.size) s s.heap) (hX : va_X b L xs s s.heap) (hbl : b < s.heap.size) (hbA : ¬ cv_A E s.heap.size b) (hL : L ≤ 3072) {σ : cv_S} {H : Heap} {locs : List Loc} {ls : Array Slot} {cells slots : Nat} {Q : State → Prop} (i : Nat) (hi : 6 * i + 6 ≤ L) (hcs : cells + 2 ≤ room_1.cells ∧ slots + 6 * 2 ≤ room_1.slots) (hR : Rel σ) (h : cv_H E σ s H locs) (hl : lv_has ls 8 [(0, .ref b), (1, .ref (E.2.1 0)), (2, .ref (E.2.1 49)), (3, .ref (E.2.1 59)), (4, .int (nI (6 * i)))]) (ih : ∀ (σ' : cv_S) (H' : Heap) (locs' : List Loc) (ls' : Array Slot), Rel σ' → cv_H E σ' s H' locs' → lv_has ls' 8 [(0, .ref b), (1, .ref (E.2.1 0)), (2, .ref (E.2.1 49)), (3, .ref (E.2.1 59)), (4, .int (nI (6 * i)))] → W p l e room_1 s m #[Value.ref b] below meth c H' locs' (cells + 2) (slots + 6 * 2) Q (F0 m 1239 ls' [])) : W p l e room_1 s m #[Value.ref b] below meth c H locs cells slots Q (F0 m 596 ls []) := by
  obtain ⟨dv, op, pw0, kn0, sa0, sr0, rd0, cnt, N, O, V, C, M, P⟩ := hR
  refine lv_aload_n S.1 S.2.1 dL_law_596 rfl (lv_at hl 1 rfl) ?_
  refine lv_aload_n S.1 S.2.1 dL_law_597 rfl (lv_at hl 0 rfl) ?_
  refine lv_iload S.1 S.2.1 dL_law_598 (lv_at hl 4 rfl) ?_
  refine lv_iconst (v := 1) S.1 S.2.1 dL_law_600 (by decide) ?_
  refine lv_iadd S.1 S.2.1 dL_law_601 ?_
  refine cv_rei (show (((nI (6 * i))) + 1) = nI (6 * i + 1) from nI_add _ _) ?_
  refine cv_sld (j := 6 * i + 1) S h hX hbl hbA hL (by omega) dL_law_602 ?_
  refine lv_i2l (v := ((xs (6 * i + 1)) : Int32).toInt64) S.1 S.2.1 dL_law_603 rfl ?_
  refine lv_bipush (v := 32) S.1 S.2.1 dL_law_604 (by decide) ?_
  refine lv_lshl (v := ((((xs (6 * i + 1)) : Int32).toInt64)) <<< ((32 : Int32).toInt64 &&& 63)) S.1 S.2.1 dL_law_606 rfl ?_
  refine lv_aload_n S.1 S.2.1 dL_law_607 rfl (lv_at hl 0 rfl) ?_
  refine lv_iload S.1 S.2.1 dL_law_608 (lv_at hl 4 rfl) ?_
  refine lv_iconst (v := 2) S.1 S.2.1 dL_law_610 (by decide) ?_
  refine lv_iadd S.1 S.2.1 dL_law_611 ?_
  refine cv_rei (show (((nI (6 * i))) + 2) = nI (6 * i + 2) from nI_add _ _) ?_
  refine cv_sld (j := 6 * i + 2) S h hX hbl hbA hL (by omega) dL_law_612 ?_
  refine lv_i2l (v := ((xs (6 * i + 2)) : Int32).toInt64) S.1 S.2.1 dL_law_613 rfl ?_
  refine lv_ldc2 (v := 4294967295) S.1 S.2.1 S.2.2.2.1 (S.2.2.2.2 (.constantLong RL 77 (4294967295)) (by decide +kernel)) dL_law_614 ?_
  refine lv_land S.1 S.2.1 dL_law_617 ?_
  refine lv_lor S.1 S.2.1 dL_law_618 ?_
  refine lv_aload_n S.1 S.2.1 dL_law_619 rfl (lv_at hl 0 rfl) ?_
  refine lv_iload S.1 S.2.1 dL_law_620 (lv_at hl 4 rfl) ?_
  refine lv_iconst (v := 3) S.1 S.2.1 dL_law_622 (by decide) ?_
  refine lv_iadd S.1 S.2.1 dL_law_623 ?_
  refine cv_rei (show (((nI (6 * i))) + 3) = nI (6 * i + 3) from nI_add _ _) ?_
  refine cv_sld (j := 6 * i + 3) S h hX hbl hbA hL (by omega) dL_law_624 ?_
  refine lv_i2l (v := ((xs (6 * i + 3)) : Int32).toInt64) S.1 S.2.1 dL_law_625 rfl ?_
  refine lv_bipush (v := 32) S.1 S.2.1 dL_law_626 (by decide) ?_
  refine lv_lshl (v := ((((xs (6 * i + 3)) : Int32).toInt64)) <<< ((32 : Int32).toInt64 &&& 63)) S.1 S.2.1 dL_law_628 rfl ?_
  refine lv_aload_n S.1 S.2.1 dL_law_629 rfl (lv_at hl 0 rfl) ?_
  refine lv_iload S.1 S.2.1 dL_law_630 (lv_at hl 4 rfl) ?_
  refine lv_iconst (v := 4) S.1 S.2.1 dL_law_632 (by decide) ?_
  refine lv_iadd S.1 S.2.1 dL_law_633 ?_
  refine cv_rei (show (((nI (6 * i))) + 4) = nI (6 * i + 4) from nI_add _ _) ?_
  refine cv_sld (j := 6 * i + 4) S h hX hbl hbA hL (by omega) dL_law_634 ?_
  refine lv_i2l (v := ((xs (6 * i + 4)) : Int32).toInt64) S.1 S.2.1 dL_law_635 rfl ?_
  refine lv_ldc2 (v := 4294967295) S.1 S.2.1 S.2.2.2.1 (S.2.2.2.2 (.constantLong RL 77 (4294967295)) (by decide +kernel)) dL_law_636 ?_
  refine lv_land S.1 S.2.1 dL_law_639 ?_
  refine lv_lor S.1 S.2.1 dL_law_640 ?_
  refine lv_aload_n S.1 S.2.1 dL_law_641 rfl (lv_at hl 3 rfl) ?_
  refine cvh_call (hh := [(0, 18, 21, 25), (0, 18, 25, 13), (0, 18, 29, 42)]) S K X h hl.1 (h_put l E σ ((((((((xs (6 * i + 1)) : Int32).toInt64)) <<< ((32 : Int32).toInt64 &&& 63))) ||| ((((((xs (6 * i + 2)) : Int32).toInt64)) &&& 4294967295)))) ((((((((xs (6 * i + 3)) : Int32).toInt64)) <<< ((32 : Int32).toInt64 &&& 63))) ||| ((((((xs (6 * i + 4)) : Int32).toInt64)) &&& 4294967295)))) (c_put l hst E σ op P.1 C.2.1 cnt N O V (fun o => (C.2.2 o).2.2.2.2.2) ((((((((xs (6 * i + 1)) : Int32).toInt64)) <<< ((32 : Int32).toInt64 &&& 63))) ||| ((((((xs (6 * i + 2)) : Int32).toInt64)) &&& 4294967295)))) ((((((((xs (6 * i + 3)) : Int32).toInt64)) <<< ((32 : Int32).toInt64 &&& 63))) ||| ((((((xs (6 * i + 4)) : Int32).toInt64)) &&& 4294967295))))) (fun nm τ z => z.elim (fun z => Or.inl z.1) (fun z => Or.inr (z.elim (fun z => Or.inl z.1) (fun z => Or.inr z.1)))) (fun r τ ⟨_, _, _, z⟩ => z.elim (fun y => Or.inl y.1) (fun y => Or.inr y.1))) (vx_cwSW 4 S.2.2.2.2 gL_law_L_put rfl rfl rfl (by decide +kernel) ⟨Nat.le_of_ble_eq_true rfl, Nat.le_of_ble_eq_true rfl⟩) rfl rfl (Nat.le_of_ble_eq_true rfl) hcs dL_law_642 (fun k σ1_ H locs hk h => ?_)
  have M1 := M.hi (fr_put (dv := dv) (op := op) (pw := pw0) (kn := kn0) (sa := sa0) (sr := sr0) (rd := rd0) (cnt := cnt) (N := N) (O := O) (V := V) hk)
  have hop : σ1_.2.2.1 49 2 = 0 ∨ σ1_.2.2.1 49 2 = 1 := by rw [M1.2.1]; exact P.1
  refine lv_istore (lv' := [(5, .int k), (0, .ref b), (1, .ref (E.2.1 0)), (2, .ref (E.2.1 49)), (3, .ref (E.2.1 59)), (4, .int (nI (6 * i)))]) S.1 S.2.1 dL_law_645 hl (by decide) rfl (fun ls hl => ?_)
  refine lv_aload_n S.1 S.2.1 dL_law_647 rfl (lv_at hl 3 rfl) ?_
  refine lv_aload_n S.1 S.2.1 dL_law_648 rfl (lv_at hl 1 rfl) ?_
  refine lv_iload S.1 S.2.1 dL_law_649 (lv_at hl 5 rfl) ?_
  refine lv_iconst (v := 1) S.1 S.2.1 dL_law_651 (by decide) ?_
  refine lv_iadd S.1 S.2.1 dL_law_652 ?_
  refine cv_rei (show (((nI (6 * i))) + 1) = nI (6 * i + 1) from nI_add _ _) ?_
  refine cv_sld (j := 6 * i + 1) S h hX hbl hbA hL (by omega) dL_law_653 ?_
  refine lv_i2l (v := ((xs (6 * i + 1)) : Int32).toInt64) S.1 S.2.1 dL_law_654 rfl ?_
  refine lv_bipush (v := 32) S.1 S.2.1 dL_law_655 (by decide) ?_
  refine lv_lshl (v := ((((xs (6 * i + 1)) : Int32).toInt64)) <<< ((32 : Int32).toInt64 &&& 63)) S.1 S.2.1 dL_law_657 rfl ?_
  refine lv_aload_n S.1 S.2.1 dL_law_658 rfl (lv_at hl 1 rfl) ?_
  refine lv_iload S.1 S.2.1 dL_law_659 (lv_at hl 5 rfl) ?_
  refine lv_iconst (v := 2) S.1 S.2.1 dL_law_661 (by decide) ?_
  refine lv_iadd S.1 S.2.1 dL_law_662 ?_
  refine cv_rei (show (((nI (6 * i))) + 2) = nI (6 * i + 2) from nI_add _ _) ?_
  refine cv_sld (j := 6 * i + 2) S h hX hbl hbA hL (by omega) dL_law_663 ?_
  refine lv_i2l (v := ((xs (6 * i + 2)) : Int32).toInt64) S.1 S.2.1 dL_law_664 rfl ?_
  refine lv_ldc2 (v := 4294967295) S.1 S.2.1 S.2.2.2.1 (S.2.2.2.2 (.constantLong RL 77 (4294967295)) (by decide +kernel)) dL_law_665 ?_
  refine lv_land S.1 S.2.1 dL_law_668 ?_
  refine lv_lor S.1 S.2.1 dL_law_669 ?_
  refine lv_aload_n S.1 S.2.1 dL_law_670 rfl (lv_at hl 1 rfl) ?_
  refine lv_iload S.1 S.2.1 dL_law_671 (lv_at hl 5 rfl) ?_
  refine lv_iconst (v := 3) S.1 S.2.1 dL_law_673 (by decide) ?_
  refine lv_iadd S.1 S.2.1 dL_law_674 ?_
  refine cv_rei (show (((nI (6 * i))) + 3) = nI (6 * i + 3) from nI_add _ _) ?_
  refine cv_sld (j := 6 * i + 3) S h hX hbl hbA hL (by omega) dL_law_675 ?_
  refine lv_i2l (v := ((xs (6 * i + 3)) : Int32).toInt64) S.1 S.2.1 dL_law_676 rfl ?_
  refine lv_bipush (v := 32) S.1 S.2.1 dL_law_677 (by decide) ?_
  refine lv_lshl (v := ((((xs (6 * i + 3)) : Int32).toInt64)) <<< ((32 : Int32).toInt64 &&& 63)) S.1 S.2.1 dL_law_679 rfl ?_
  refine lv_aload_n S.1 S.2.1 dL_law_680 rfl (lv_at hl 1 rfl) ?_
  refine lv_iload S.1 S.2.1 dL_law_681 (lv_at hl 5 rfl) ?_
  refine lv_iconst (v := 4) S.1 S.2.1 dL_law_683 (by decide) ?_
  refine lv_iadd S.1 S.2.1 dL_law_684 ?_
  refine cv_rei (show (((nI (6 * i))) + 4) = nI (6 * i + 4) from nI_add _ _) ?_
  refine cv_sld (j := 6 * i + 4) S h hX hbl hbA hL (by omega) dL_law_685 ?_
  refine lv_i2l (v := ((xs (6 * i + 4)) : Int32).toInt64) S.1 S.2.1 dL_law_686 rfl ?_
  refine lv_ldc2 (v := 4294967295) S.1 S.2.1 S.2.2.2.1 (S.2.2.2.2 (.constantLong RL 77 (4294967295)) (by decide +kernel)) dL_law_687 ?_
  refine lv_land S.1 S.2.1 dL_law_690 ?_
  refine lv_lor S.1 S.2.1 dL_law_691 ?_
  refine cv_calli (ci := 6) (C := RX6) (T := TX6) (N := 18) S K h hl.1 rfl rfl rfl (m_put l E σ1_ cnt N O V M1.2.2.1 M1.2.2.2.1 hop (fun o => (M1.2.2.2.2 (M1.2.1.symm.trans o)).2.2.2.2.2) ((((((((xs (6 * i + 1)) : Int32).toInt64)) <<< ((32 : Int32).toInt64 &&& 63))) ||| ((((((xs (6 * i + 2)) : Int32).toInt64)) &&& 4294967295)))) ((((((((xs (6 * i + 3)) : Int32).toInt64)) <<< ((32 : Int32).toInt64 &&& 63))) ||| ((((((xs (6 * i + 4)) : Int32).toInt64)) &&& 4294967295))))) (cwV 2 S.2.2.2.2 gL_law_X6_put rfl rfl rfl (by decide +kernel) ⟨Nat.le_of_ble_eq_true rfl, Nat.le_of_ble_eq_true rfl⟩) rfl rfl (Nat.le_of_ble_eq_true rfl) hcs dL_law_692 (fun r2 σ44 H locs hm h => ?_)
  have hT := st_put C M P hk hm
  refine lv_istore (lv' := [(6, .int r2), (5, .int k), (0, .ref b), (1, .ref (E.2.1 0)), (2, .ref (E.2.1 49)), (3, .ref (E.2.1 59)), (4, .int (nI (6 * i)))]) S.1 S.2.1 dL_law_695 hl (by decide) rfl (fun ls hl => ?_)
  refine lv_aload_n S.1 S.2.1 dL_law_697 rfl (lv_at hl 4 rfl) ?_
  refine cv_calli (ci := 6) (C := RX6) (T := TX6) (N := 18) S K h hl.1 rfl rfl rfl (m_thrown l E σ44) (cwV 0 S.2.2.2.2 gL_law_X6_thrown rfl rfl rfl (by decide +kernel) ⟨Nat.le_of_ble_eq_true rfl, Nat.le_of_ble_eq_true rfl⟩) rfl rfl (Nat.le_of_ble_eq_true rfl) hcs dL_law_698 (fun r3 σ45 H locs ⟨ht, hs9⟩ h => ?_)
  rw [hs9] at h
  refine lv_iload S.1 S.2.1 dL_law_701 (lv_at hl 1 rfl) ?_
  refine lv_icmp_eq (tgt := 708) S.1 S.2.1 dL_law_703 (by decide) (fun c1 => ?_) (fun c1 => ?_)
  · refine lv_iload S.1 S.2.1 dL_law_708 (lv_at hl 1 rfl) ?_
    refine lv_if_ne (tgt := 732) S.1 S.2.1 dL_law_710 (by decide) (fun c2 => ?_) (fun c2 => ?_)
    · refine lv_goto (tgt := 1239) S.1 S.2.1 dL_law_732 (by decide) ?_
      exact ih σ44 H locs ls hT.2.2 h (lv_sub hl [2, 3, 4, 5, 6] rfl)
    · have hO := hT.2.1 c2
      refine lv_aload_n S.1 S.2.1 dL_law_713 rfl (lv_at hl 5 rfl) ?_
      refine lv_iconst (v := 0) S.1 S.2.1 dL_law_714 (by decide) ?_
      refine cv_lald S K h 59 rfl (n := 1) rfl 0 rfl (by decide) dL_law_715 ?_
      refine lv_iload S.1 S.2.1 dL_law_716 (lv_at hl 0 rfl) ?_
      refine lv_if_eq (tgt := 725) S.1 S.2.1 dL_law_718 (by decide) (fun c3 => ?_) (fun c3 => ?_)
      · refine lv_lconst (v := 0) S.1 S.2.1 dL_law_725 (by decide) ?_
        refine W.lcmp S.1 S.2.1 dL_law_726 ?_
        refine lv_if_eq (tgt := 732) S.1 S.2.1 dL_law_727 (by decide) (fun c4 => ?_) (fun c4 => ?_)
        · refine lv_goto (tgt := 1239) S.1 S.2.1 dL_law_732 (by decide) ?_
          exact ih σ44 H locs ls hT.2.2 h (lv_sub hl [2, 3, 4, 5, 6] rfl)
        · exact absurd (lg_eq0.mpr (by rw [hO, if_pos c3])) c4
      · refine lv_lconst (v := 1) S.1 S.2.1 dL_law_721 (by decide) ?_
        refine lv_goto (tgt := 726) S.1 S.2.1 dL_law_722 (by decide) ?_
        refine W.lcmp S.1 S.2.1 dL_law_726 ?_
        refine lv_if_eq (tgt := 732) S.1 S.2.1 dL_law_727 (by decide) (fun c4 => ?_) (fun c4 => ?_)
        · refine lv_goto (tgt := 1239) S.1 S.2.1 dL_law_732 (by decide) ?_
          exact ih σ44 H locs ls hT.2.2 h (lv_sub hl [2, 3, 4, 5, 6] rfl)
        · exact absurd (lg_eq0.mpr (by rw [hO, if_neg c3])) c4
  · exact absurd (ht.trans hT.1) c1

set_option maxHeartbeats 4000000 in
set_option maxRecDepth 100000 in
theorem law_remove {p : Program} {l : Launch} {e : Env} {s : State} {m : MethodId} {below : List Frame} {meth : Method} {c : Code} {E : cv_E} {b L : Nat} {xs : Nat → Int32} (hst : l.stackTraces = false) (S : CallFix p m c cL_law 8 s #[Value.ref b] wsL_law RL) (K : cv_K E s) (X : cv_KX (cv_A E s.heap.size) s s.heap) (hX : va_X b L xs s s.heap) (hbl : b < s.heap.size) (hbA : ¬ cv_A E s.heap.size b) (hL : L ≤ 3072) {σ : cv_S} {H : Heap} {locs : List Loc} {ls : Array Slot} {cells slots : Nat} {Q : State → Prop} (i : Nat) (hi : 6 * i + 6 ≤ L) (hcs : cells + 2 ≤ room_1.cells ∧ slots + 6 * 2 ≤ room_1.slots) (hR : Rel σ) (h : cv_H E σ s H locs) (hl : lv_has ls 8 [(0, .ref b), (1, .ref (E.2.1 0)), (2, .ref (E.2.1 49)), (3, .ref (E.2.1 59)), (4, .int (nI (6 * i)))]) (ih : ∀ (σ' : cv_S) (H' : Heap) (locs' : List Loc) (ls' : Array Slot), Rel σ' → cv_H E σ' s H' locs' → lv_has ls' 8 [(0, .ref b), (1, .ref (E.2.1 0)), (2, .ref (E.2.1 49)), (3, .ref (E.2.1 59)), (4, .int (nI (6 * i)))] → W p l e room_1 s m #[Value.ref b] below meth c H' locs' (cells + 2) (slots + 6 * 2) Q (F0 m 1239 ls' [])) : W p l e room_1 s m #[Value.ref b] below meth c H locs cells slots Q (F0 m 735 ls []) := by
  obtain ⟨dv, op, pw0, kn0, sa0, sr0, rd0, cnt, N, O, V, C, M, P⟩ := hR
  refine lv_aload_n S.1 S.2.1 dL_law_735 rfl (lv_at hl 1 rfl) ?_
  refine lv_aload_n S.1 S.2.1 dL_law_736 rfl (lv_at hl 0 rfl) ?_
  refine lv_iload S.1 S.2.1 dL_law_737 (lv_at hl 4 rfl) ?_
  refine lv_iconst (v := 1) S.1 S.2.1 dL_law_739 (by decide) ?_
  refine lv_iadd S.1 S.2.1 dL_law_740 ?_
  refine cv_rei (show (((nI (6 * i))) + 1) = nI (6 * i + 1) from nI_add _ _) ?_
  refine cv_sld (j := 6 * i + 1) S h hX hbl hbA hL (by omega) dL_law_741 ?_
  refine lv_i2l (v := ((xs (6 * i + 1)) : Int32).toInt64) S.1 S.2.1 dL_law_742 rfl ?_
  refine lv_bipush (v := 32) S.1 S.2.1 dL_law_743 (by decide) ?_
  refine lv_lshl (v := ((((xs (6 * i + 1)) : Int32).toInt64)) <<< ((32 : Int32).toInt64 &&& 63)) S.1 S.2.1 dL_law_745 rfl ?_
  refine lv_aload_n S.1 S.2.1 dL_law_746 rfl (lv_at hl 0 rfl) ?_
  refine lv_iload S.1 S.2.1 dL_law_747 (lv_at hl 4 rfl) ?_
  refine lv_iconst (v := 2) S.1 S.2.1 dL_law_749 (by decide) ?_
  refine lv_iadd S.1 S.2.1 dL_law_750 ?_
  refine cv_rei (show (((nI (6 * i))) + 2) = nI (6 * i + 2) from nI_add _ _) ?_
  refine cv_sld (j := 6 * i + 2) S h hX hbl hbA hL (by omega) dL_law_751 ?_
  refine lv_i2l (v := ((xs (6 * i + 2)) : Int32).toInt64) S.1 S.2.1 dL_law_752 rfl ?_
  refine lv_ldc2 (v := 4294967295) S.1 S.2.1 S.2.2.2.1 (S.2.2.2.2 (.constantLong RL 77 (4294967295)) (by decide +kernel)) dL_law_753 ?_
  refine lv_land S.1 S.2.1 dL_law_756 ?_
  refine lv_lor S.1 S.2.1 dL_law_757 ?_
  refine lv_aload_n S.1 S.2.1 dL_law_758 rfl (lv_at hl 3 rfl) ?_
  refine cvh_call (hh := [(0, 16, 19, 25)]) S K X h hl.1 (h_remove l E σ ((((((((xs (6 * i + 1)) : Int32).toInt64)) <<< ((32 : Int32).toInt64 &&& 63))) ||| ((((((xs (6 * i + 2)) : Int32).toInt64)) &&& 4294967295)))) (c_remove l hst E σ op P.1 C.2.1 cnt N O V (fun o => (C.2.2 o).2.2.2.2.2) ((((((((xs (6 * i + 1)) : Int32).toInt64)) <<< ((32 : Int32).toInt64 &&& 63))) ||| ((((((xs (6 * i + 2)) : Int32).toInt64)) &&& 4294967295))))) (fun nm τ z => z.1) (fun r τ ⟨_, z⟩ => z.elim (fun y => Or.inl y.1) (fun y => Or.inr y.1))) (vx_cwSW 3 S.2.2.2.2 gL_law_L_remove rfl rfl rfl (by decide +kernel) ⟨Nat.le_of_ble_eq_true rfl, Nat.le_of_ble_eq_true rfl⟩) rfl rfl (Nat.le_of_ble_eq_true rfl) hcs dL_law_759 (fun k σ1_ H locs hk h => ?_)
  have M1 := M.hi (fr_remove (dv := dv) (op := op) (pw := pw0) (kn := kn0) (sa := sa0) (sr := sr0) (rd := rd0) (cnt := cnt) (N := N) (O := O) (V := V) hk)
  have hop : σ1_.2.2.1 49 2 = 0 ∨ σ1_.2.2.1 49 2 = 1 := by rw [M1.2.1]; exact P.1
  refine lv_istore (lv' := [(5, .int k), (0, .ref b), (1, .ref (E.2.1 0)), (2, .ref (E.2.1 49)), (3, .ref (E.2.1 59)), (4, .int (nI (6 * i)))]) S.1 S.2.1 dL_law_762 hl (by decide) rfl (fun ls hl => ?_)
  refine lv_aload_n S.1 S.2.1 dL_law_764 rfl (lv_at hl 3 rfl) ?_
  refine lv_aload_n S.1 S.2.1 dL_law_765 rfl (lv_at hl 1 rfl) ?_
  refine lv_iload S.1 S.2.1 dL_law_766 (lv_at hl 5 rfl) ?_
  refine lv_iconst (v := 1) S.1 S.2.1 dL_law_768 (by decide) ?_
  refine lv_iadd S.1 S.2.1 dL_law_769 ?_
  refine cv_rei (show (((nI (6 * i))) + 1) = nI (6 * i + 1) from nI_add _ _) ?_
  refine cv_sld (j := 6 * i + 1) S h hX hbl hbA hL (by omega) dL_law_770 ?_
  refine lv_i2l (v := ((xs (6 * i + 1)) : Int32).toInt64) S.1 S.2.1 dL_law_771 rfl ?_
  refine lv_bipush (v := 32) S.1 S.2.1 dL_law_772 (by decide) ?_
  refine lv_lshl (v := ((((xs (6 * i + 1)) : Int32).toInt64)) <<< ((32 : Int32).toInt64 &&& 63)) S.1 S.2.1 dL_law_774 rfl ?_
  refine lv_aload_n S.1 S.2.1 dL_law_775 rfl (lv_at hl 1 rfl) ?_
  refine lv_iload S.1 S.2.1 dL_law_776 (lv_at hl 5 rfl) ?_
  refine lv_iconst (v := 2) S.1 S.2.1 dL_law_778 (by decide) ?_
  refine lv_iadd S.1 S.2.1 dL_law_779 ?_
  refine cv_rei (show (((nI (6 * i))) + 2) = nI (6 * i + 2) from nI_add _ _) ?_
  refine cv_sld (j := 6 * i + 2) S h hX hbl hbA hL (by omega) dL_law_780 ?_
  refine lv_i2l (v := ((xs (6 * i + 2)) : Int32).toInt64) S.1 S.2.1 dL_law_781 rfl ?_
  refine lv_ldc2 (v := 4294967295) S.1 S.2.1 S.2.2.2.1 (S.2.2.2.2 (.constantLong RL 77 (4294967295)) (by decide +kernel)) dL_law_782 ?_
  refine lv_land S.1 S.2.1 dL_law_785 ?_
  refine lv_lor S.1 S.2.1 dL_law_786 ?_
  refine cv_calli (ci := 6) (C := RX6) (T := TX6) (N := 18) S K h hl.1 rfl rfl rfl (m_remove l E σ1_ cnt N O V M1.2.2.1 M1.2.2.2.1 hop (fun o => (M1.2.2.2.2 (M1.2.1.symm.trans o)).2.2.2.2.2) ((((((((xs (6 * i + 1)) : Int32).toInt64)) <<< ((32 : Int32).toInt64 &&& 63))) ||| ((((((xs (6 * i + 2)) : Int32).toInt64)) &&& 4294967295))))) (cwV 1 S.2.2.2.2 gL_law_X6_remove rfl rfl rfl (by decide +kernel) ⟨Nat.le_of_ble_eq_true rfl, Nat.le_of_ble_eq_true rfl⟩) rfl rfl (Nat.le_of_ble_eq_true rfl) hcs dL_law_787 (fun r2 σ46 H locs hm h => ?_)
  have hT := st_remove C M P hk hm
  refine lv_istore (lv' := [(6, .int r2), (5, .int k), (0, .ref b), (1, .ref (E.2.1 0)), (2, .ref (E.2.1 49)), (3, .ref (E.2.1 59)), (4, .int (nI (6 * i)))]) S.1 S.2.1 dL_law_790 hl (by decide) rfl (fun ls hl => ?_)
  refine lv_aload_n S.1 S.2.1 dL_law_792 rfl (lv_at hl 4 rfl) ?_
  refine cv_calli (ci := 6) (C := RX6) (T := TX6) (N := 18) S K h hl.1 rfl rfl rfl (m_thrown l E σ46) (cwV 0 S.2.2.2.2 gL_law_X6_thrown rfl rfl rfl (by decide +kernel) ⟨Nat.le_of_ble_eq_true rfl, Nat.le_of_ble_eq_true rfl⟩) rfl rfl (Nat.le_of_ble_eq_true rfl) hcs dL_law_793 (fun r3 σ47 H locs ⟨ht, hs9⟩ h => ?_)
  rw [hs9] at h
  refine lv_iload S.1 S.2.1 dL_law_796 (lv_at hl 1 rfl) ?_
  refine lv_icmp_eq (tgt := 803) S.1 S.2.1 dL_law_798 (by decide) (fun c1 => ?_) (fun c1 => ?_)
  · refine lv_iload S.1 S.2.1 dL_law_803 (lv_at hl 1 rfl) ?_
    refine lv_if_ne (tgt := 827) S.1 S.2.1 dL_law_805 (by decide) (fun c2 => ?_) (fun c2 => ?_)
    · refine lv_goto (tgt := 1239) S.1 S.2.1 dL_law_827 (by decide) ?_
      exact ih σ46 H locs ls hT.2.2 h (lv_sub hl [2, 3, 4, 5, 6] rfl)
    · have hO := hT.2.1 c2
      refine lv_aload_n S.1 S.2.1 dL_law_808 rfl (lv_at hl 5 rfl) ?_
      refine lv_iconst (v := 0) S.1 S.2.1 dL_law_809 (by decide) ?_
      refine cv_lald S K h 59 rfl (n := 1) rfl 0 rfl (by decide) dL_law_810 ?_
      refine lv_iload S.1 S.2.1 dL_law_811 (lv_at hl 0 rfl) ?_
      refine lv_if_eq (tgt := 820) S.1 S.2.1 dL_law_813 (by decide) (fun c3 => ?_) (fun c3 => ?_)
      · refine lv_lconst (v := 0) S.1 S.2.1 dL_law_820 (by decide) ?_
        refine W.lcmp S.1 S.2.1 dL_law_821 ?_
        refine lv_if_eq (tgt := 827) S.1 S.2.1 dL_law_822 (by decide) (fun c4 => ?_) (fun c4 => ?_)
        · refine lv_goto (tgt := 1239) S.1 S.2.1 dL_law_827 (by decide) ?_
          exact ih σ46 H locs ls hT.2.2 h (lv_sub hl [2, 3, 4, 5, 6] rfl)
        · exact absurd (lg_eq0.mpr (by rw [hO, if_pos c3])) c4
      · refine lv_lconst (v := 1) S.1 S.2.1 dL_law_816 (by decide) ?_
        refine lv_goto (tgt := 821) S.1 S.2.1 dL_law_817 (by decide) ?_
        refine W.lcmp S.1 S.2.1 dL_law_821 ?_
        refine lv_if_eq (tgt := 827) S.1 S.2.1 dL_law_822 (by decide) (fun c4 => ?_) (fun c4 => ?_)
        · refine lv_goto (tgt := 1239) S.1 S.2.1 dL_law_827 (by decide) ?_
          exact ih σ46 H locs ls hT.2.2 h (lv_sub hl [2, 3, 4, 5, 6] rfl)
        · exact absurd (lg_eq0.mpr (by rw [hO, if_neg c3])) c4
  · exact absurd (ht.trans hT.1) c1

set_option maxHeartbeats 4000000 in
set_option maxRecDepth 100000 in
theorem law_entries {p : Program} {l : Launch} {e : Env} {s : State} {m : MethodId} {below : List Frame} {meth : Method} {c : Code} {E : cv_E} {b L : Nat} {xs : Nat → Int32} (hst : l.stackTraces = false) (S : CallFix p m c cL_law 8 s #[Value.ref b] wsL_law RL) (K : cv_K E s) (X : cv_KX (cv_A E s.heap.size) s s.heap) (hX : va_X b L xs s s.heap) (hbl : b < s.heap.size) (hbA : ¬ cv_A E s.heap.size b) (hL : L ≤ 3072) {σ : cv_S} {H : Heap} {locs : List Loc} {ls : Array Slot} {cells slots : Nat} {Q : State → Prop} (i : Nat) (hi : 6 * i + 6 ≤ L) (hcs : cells + 2 ≤ room_1.cells ∧ slots + 6 * 2 ≤ room_1.slots) (hR : Rel σ) (h : cv_H E σ s H locs) (hl : lv_has ls 8 [(0, .ref b), (1, .ref (E.2.1 0)), (2, .ref (E.2.1 49)), (3, .ref (E.2.1 59)), (4, .int (nI (6 * i)))]) (ih : ∀ (σ' : cv_S) (H' : Heap) (locs' : List Loc) (ls' : Array Slot), Rel σ' → cv_H E σ' s H' locs' → lv_has ls' 8 [(0, .ref b), (1, .ref (E.2.1 0)), (2, .ref (E.2.1 49)), (3, .ref (E.2.1 59)), (4, .int (nI (6 * i)))] → W p l e room_1 s m #[Value.ref b] below meth c H' locs' (cells + 2) (slots + 6 * 2) Q (F0 m 1239 ls' [])) : W p l e room_1 s m #[Value.ref b] below meth c H locs cells slots Q (F0 m 830 ls []) := by
  obtain ⟨dv, op, pw0, kn0, sa0, sr0, rd0, cnt, N, O, V, C, M, P⟩ := hR
  refine lv_aload_n S.1 S.2.1 dL_law_830 rfl (lv_at hl 1 rfl) ?_
  refine lv_aload_n S.1 S.2.1 dL_law_831 rfl (lv_at hl 3 rfl) ?_
  refine cvh_call (hh := [(0, 8, 11, 25)]) S K X h hl.1 (h_entries l E σ  (c_entries l hst E σ op P.1 C.2.1) (fun nm τ z => z.1) ) (vx_cwSW 2 S.2.2.2.2 gL_law_L_entries rfl rfl rfl (by decide +kernel) ⟨Nat.le_of_ble_eq_true rfl, Nat.le_of_ble_eq_true rfl⟩) rfl rfl (Nat.le_of_ble_eq_true rfl) hcs dL_law_832 (fun k σ1_ H locs hk h => ?_)
  have M1 := M.hi (fr_entries (dv := dv) (op := op) (pw := pw0) (kn := kn0) (sa := sa0) (sr := sr0) (rd := rd0) (cnt := cnt) (N := N) (O := O) (V := V) hk)
  have hop : σ1_.2.2.1 49 2 = 0 ∨ σ1_.2.2.1 49 2 = 1 := by rw [M1.2.1]; exact P.1
  refine lv_istore (lv' := [(5, .int k), (0, .ref b), (1, .ref (E.2.1 0)), (2, .ref (E.2.1 49)), (3, .ref (E.2.1 59)), (4, .int (nI (6 * i)))]) S.1 S.2.1 dL_law_835 hl (by decide) rfl (fun ls hl => ?_)
  refine lv_aload_n S.1 S.2.1 dL_law_837 rfl (lv_at hl 3 rfl) ?_
  refine cv_calli (ci := 6) (C := RX6) (T := TX6) (N := 18) S K h hl.1 rfl rfl rfl (m_entries l E σ1_ hop) (cwV 0 S.2.2.2.2 gL_law_X6_entries rfl rfl rfl (by decide +kernel) ⟨Nat.le_of_ble_eq_true rfl, Nat.le_of_ble_eq_true rfl⟩) rfl rfl (Nat.le_of_ble_eq_true rfl) hcs dL_law_838 (fun r2 σ48 H locs hm h => ?_)
  have hT := st_entries C M P hk hm
  refine lv_istore (lv' := [(6, .int r2), (5, .int k), (0, .ref b), (1, .ref (E.2.1 0)), (2, .ref (E.2.1 49)), (3, .ref (E.2.1 59)), (4, .int (nI (6 * i)))]) S.1 S.2.1 dL_law_841 hl (by decide) rfl (fun ls hl => ?_)
  refine lv_aload_n S.1 S.2.1 dL_law_843 rfl (lv_at hl 4 rfl) ?_
  refine cv_calli (ci := 6) (C := RX6) (T := TX6) (N := 18) S K h hl.1 rfl rfl rfl (m_thrown l E σ48) (cwV 0 S.2.2.2.2 gL_law_X6_thrown rfl rfl rfl (by decide +kernel) ⟨Nat.le_of_ble_eq_true rfl, Nat.le_of_ble_eq_true rfl⟩) rfl rfl (Nat.le_of_ble_eq_true rfl) hcs dL_law_844 (fun r3 σ49 H locs ⟨ht, hs9⟩ h => ?_)
  rw [hs9] at h
  refine lv_iload S.1 S.2.1 dL_law_847 (lv_at hl 1 rfl) ?_
  refine lv_icmp_eq (tgt := 854) S.1 S.2.1 dL_law_849 (by decide) (fun c1 => ?_) (fun c1 => ?_)
  · refine lv_iload S.1 S.2.1 dL_law_854 (lv_at hl 1 rfl) ?_
    refine lv_if_ne (tgt := 871) S.1 S.2.1 dL_law_856 (by decide) (fun c2 => ?_) (fun c2 => ?_)
    · refine lv_goto (tgt := 1239) S.1 S.2.1 dL_law_871 (by decide) ?_
      exact ih σ48 H locs ls hT.2.2 h (lv_sub hl [2, 3, 4, 5, 6] rfl)
    · have hO := hT.2.1 c2
      refine lv_aload_n S.1 S.2.1 dL_law_859 rfl (lv_at hl 5 rfl) ?_
      refine lv_iconst (v := 0) S.1 S.2.1 dL_law_860 (by decide) ?_
      refine cv_lald S K h 59 rfl (n := 1) rfl 0 rfl (by decide) dL_law_861 ?_
      refine lv_iload S.1 S.2.1 dL_law_862 (lv_at hl 0 rfl) ?_
      refine lv_i2l (v := (r2 : Int32).toInt64) S.1 S.2.1 dL_law_864 rfl ?_
      refine W.lcmp S.1 S.2.1 dL_law_865 ?_
      refine lv_if_eq (tgt := 871) S.1 S.2.1 dL_law_866 (by decide) (fun c4 => ?_) (fun c4 => ?_)
      · refine lv_goto (tgt := 1239) S.1 S.2.1 dL_law_871 (by decide) ?_
        exact ih σ48 H locs ls hT.2.2 h (lv_sub hl [2, 3, 4, 5, 6] rfl)
      · exact absurd (lg_eq0.mpr (hO)) c4
  · exact absurd (ht.trans hT.1) c1

set_option maxHeartbeats 4000000 in
set_option maxRecDepth 100000 in
theorem law_name {p : Program} {l : Launch} {e : Env} {s : State} {m : MethodId} {below : List Frame} {meth : Method} {c : Code} {E : cv_E} {b L : Nat} {xs : Nat → Int32} (hst : l.stackTraces = false) (S : CallFix p m c cL_law 8 s #[Value.ref b] wsL_law RL) (K : cv_K E s) (X : cv_KX (cv_A E s.heap.size) s s.heap) (hX : va_X b L xs s s.heap) (hbl : b < s.heap.size) (hbA : ¬ cv_A E s.heap.size b) (hL : L ≤ 3072) {σ : cv_S} {H : Heap} {locs : List Loc} {ls : Array Slot} {cells slots : Nat} {Q : State → Prop} (i : Nat) (hi : 6 * i + 6 ≤ L) (hcs : cells + 2 ≤ room_1.cells ∧ slots + 6 * 2 ≤ room_1.slots) (hR : Rel σ) (h : cv_H E σ s H locs) (hl : lv_has ls 8 [(0, .ref b), (1, .ref (E.2.1 0)), (2, .ref (E.2.1 49)), (3, .ref (E.2.1 59)), (4, .int (nI (6 * i)))]) (ih : ∀ (σ' : cv_S) (H' : Heap) (locs' : List Loc) (ls' : Array Slot), Rel σ' → cv_H E σ' s H' locs' → lv_has ls' 8 [(0, .ref b), (1, .ref (E.2.1 0)), (2, .ref (E.2.1 49)), (3, .ref (E.2.1 59)), (4, .int (nI (6 * i)))] → W p l e room_1 s m #[Value.ref b] below meth c H' locs' (cells + 2) (slots + 6 * 2) Q (F0 m 1239 ls' [])) : W p l e room_1 s m #[Value.ref b] below meth c H locs cells slots Q (F0 m 874 ls []) := by
  obtain ⟨dv, op, pw0, kn0, sa0, sr0, rd0, cnt, N, O, V, C, M, P⟩ := hR
  refine lv_aload_n S.1 S.2.1 dL_law_874 rfl (lv_at hl 1 rfl) ?_
  refine lv_aload_n S.1 S.2.1 dL_law_875 rfl (lv_at hl 0 rfl) ?_
  refine lv_iload S.1 S.2.1 dL_law_876 (lv_at hl 4 rfl) ?_
  refine lv_iconst (v := 1) S.1 S.2.1 dL_law_878 (by decide) ?_
  refine lv_iadd S.1 S.2.1 dL_law_879 ?_
  refine cv_rei (show (((nI (6 * i))) + 1) = nI (6 * i + 1) from nI_add _ _) ?_
  refine cv_sld (j := 6 * i + 1) S h hX hbl hbA hL (by omega) dL_law_880 ?_
  refine lv_aload_n S.1 S.2.1 dL_law_881 rfl (lv_at hl 3 rfl) ?_
  refine cvh_call (hh := [(0, 8, 11, 25), (0, 8, 14, 55)]) S K X h hl.1 (h_name l E σ ((xs (6 * i + 1))) (c_name l hst E σ op P.1 C.2.1 cnt N O V (fun o => (C.2.2 o).2.2.2.2.2) ((xs (6 * i + 1)))) (fun nm τ z => z.elim (fun z => Or.inl z.1) (fun z => Or.inr z.1)) ) (vx_cwSW 3 S.2.2.2.2 gL_law_L_name rfl rfl rfl (by decide +kernel) ⟨Nat.le_of_ble_eq_true rfl, Nat.le_of_ble_eq_true rfl⟩) rfl rfl (Nat.le_of_ble_eq_true rfl) hcs dL_law_882 (fun k σ1_ H locs hk h => ?_)
  have M1 := M.hi (fr_name (dv := dv) (op := op) (pw := pw0) (kn := kn0) (sa := sa0) (sr := sr0) (rd := rd0) (cnt := cnt) (N := N) (O := O) (V := V) hk)
  have hop : σ1_.2.2.1 49 2 = 0 ∨ σ1_.2.2.1 49 2 = 1 := by rw [M1.2.1]; exact P.1
  refine lv_istore (lv' := [(5, .int k), (0, .ref b), (1, .ref (E.2.1 0)), (2, .ref (E.2.1 49)), (3, .ref (E.2.1 59)), (4, .int (nI (6 * i)))]) S.1 S.2.1 dL_law_885 hl (by decide) rfl (fun ls hl => ?_)
  refine lv_aload_n S.1 S.2.1 dL_law_887 rfl (lv_at hl 3 rfl) ?_
  refine lv_aload_n S.1 S.2.1 dL_law_888 rfl (lv_at hl 1 rfl) ?_
  refine lv_iload S.1 S.2.1 dL_law_889 (lv_at hl 5 rfl) ?_
  refine lv_iconst (v := 1) S.1 S.2.1 dL_law_891 (by decide) ?_
  refine lv_iadd S.1 S.2.1 dL_law_892 ?_
  refine cv_rei (show (((nI (6 * i))) + 1) = nI (6 * i + 1) from nI_add _ _) ?_
  refine cv_sld (j := 6 * i + 1) S h hX hbl hbA hL (by omega) dL_law_893 ?_
  refine cv_calll (ci := 6) (C := RX6) (T := TX6) (N := 18) S K h hl.1 rfl rfl rfl (m_name l E σ1_ hop cnt M1.2.2.1 M1.2.2.2.1 ((xs (6 * i + 1)))) (cwV 1 S.2.2.2.2 gL_law_X6_name rfl rfl rfl (by decide +kernel) ⟨Nat.le_of_ble_eq_true rfl, Nat.le_of_ble_eq_true rfl⟩) rfl rfl (Nat.le_of_ble_eq_true rfl) hcs dL_law_894 (fun r2 σ50 H locs hm h => ?_)
  have hT := st_name C M P hk hm
  refine lv_lstore (lv' := [(6, .long r2), (5, .int k), (0, .ref b), (1, .ref (E.2.1 0)), (2, .ref (E.2.1 49)), (3, .ref (E.2.1 59)), (4, .int (nI (6 * i)))]) S.1 S.2.1 dL_law_897 hl (by decide) rfl (fun ls hl => ?_)
  refine lv_aload_n S.1 S.2.1 dL_law_899 rfl (lv_at hl 4 rfl) ?_
  refine cv_calli (ci := 6) (C := RX6) (T := TX6) (N := 18) S K h hl.1 rfl rfl rfl (m_thrown l E σ50) (cwV 0 S.2.2.2.2 gL_law_X6_thrown rfl rfl rfl (by decide +kernel) ⟨Nat.le_of_ble_eq_true rfl, Nat.le_of_ble_eq_true rfl⟩) rfl rfl (Nat.le_of_ble_eq_true rfl) hcs dL_law_900 (fun r3 σ51 H locs ⟨ht, hs9⟩ h => ?_)
  rw [hs9] at h
  refine lv_iload S.1 S.2.1 dL_law_903 (lv_at hl 1 rfl) ?_
  refine lv_icmp_eq (tgt := 910) S.1 S.2.1 dL_law_905 (by decide) (fun c1 => ?_) (fun c1 => ?_)
  · refine lv_iload S.1 S.2.1 dL_law_910 (lv_at hl 1 rfl) ?_
    refine lv_if_ne (tgt := 926) S.1 S.2.1 dL_law_912 (by decide) (fun c2 => ?_) (fun c2 => ?_)
    · refine lv_goto (tgt := 1239) S.1 S.2.1 dL_law_926 (by decide) ?_
      exact ih σ50 H locs ls hT.2.2 h (lv_sub hl [2, 3, 4, 5, 6] rfl)
    · have hO := hT.2.1 c2
      refine lv_aload_n S.1 S.2.1 dL_law_915 rfl (lv_at hl 5 rfl) ?_
      refine lv_iconst (v := 0) S.1 S.2.1 dL_law_916 (by decide) ?_
      refine cv_lald S K h 59 rfl (n := 1) rfl 0 rfl (by decide) dL_law_917 ?_
      refine lv_lload S.1 S.2.1 dL_law_918 (lv_at hl 0 rfl) ?_
      refine W.lcmp S.1 S.2.1 dL_law_920 ?_
      refine lv_if_eq (tgt := 926) S.1 S.2.1 dL_law_921 (by decide) (fun c4 => ?_) (fun c4 => ?_)
      · refine lv_goto (tgt := 1239) S.1 S.2.1 dL_law_926 (by decide) ?_
        exact ih σ50 H locs ls hT.2.2 h (lv_sub hl [2, 3, 4, 5, 6] rfl)
      · exact absurd (lg_eq0.mpr (hO)) c4
  · exact absurd (ht.trans hT.1) c1

set_option maxHeartbeats 4000000 in
set_option maxRecDepth 100000 in
theorem law_value {p : Program} {l : Launch} {e : Env} {s : State} {m : MethodId} {below : List Frame} {meth : Method} {c : Code} {E : cv_E} {b L : Nat} {xs : Nat → Int32} (hst : l.stackTraces = false) (S : CallFix p m c cL_law 8 s #[Value.ref b] wsL_law RL) (K : cv_K E s) (X : cv_KX (cv_A E s.heap.size) s s.heap) (hX : va_X b L xs s s.heap) (hbl : b < s.heap.size) (hbA : ¬ cv_A E s.heap.size b) (hL : L ≤ 3072) {σ : cv_S} {H : Heap} {locs : List Loc} {ls : Array Slot} {cells slots : Nat} {Q : State → Prop} (i : Nat) (hi : 6 * i + 6 ≤ L) (hcs : cells + 2 ≤ room_1.cells ∧ slots + 6 * 2 ≤ room_1.slots) (hR : Rel σ) (h : cv_H E σ s H locs) (hl : lv_has ls 8 [(0, .ref b), (1, .ref (E.2.1 0)), (2, .ref (E.2.1 49)), (3, .ref (E.2.1 59)), (4, .int (nI (6 * i)))]) (ih : ∀ (σ' : cv_S) (H' : Heap) (locs' : List Loc) (ls' : Array Slot), Rel σ' → cv_H E σ' s H' locs' → lv_has ls' 8 [(0, .ref b), (1, .ref (E.2.1 0)), (2, .ref (E.2.1 49)), (3, .ref (E.2.1 59)), (4, .int (nI (6 * i)))] → W p l e room_1 s m #[Value.ref b] below meth c H' locs' (cells + 2) (slots + 6 * 2) Q (F0 m 1239 ls' [])) : W p l e room_1 s m #[Value.ref b] below meth c H locs cells slots Q (F0 m 929 ls []) := by
  obtain ⟨dv, op, pw0, kn0, sa0, sr0, rd0, cnt, N, O, V, C, M, P⟩ := hR
  refine lv_aload_n S.1 S.2.1 dL_law_929 rfl (lv_at hl 1 rfl) ?_
  refine lv_aload_n S.1 S.2.1 dL_law_930 rfl (lv_at hl 0 rfl) ?_
  refine lv_iload S.1 S.2.1 dL_law_931 (lv_at hl 4 rfl) ?_
  refine lv_iconst (v := 1) S.1 S.2.1 dL_law_933 (by decide) ?_
  refine lv_iadd S.1 S.2.1 dL_law_934 ?_
  refine cv_rei (show (((nI (6 * i))) + 1) = nI (6 * i + 1) from nI_add _ _) ?_
  refine cv_sld (j := 6 * i + 1) S h hX hbl hbA hL (by omega) dL_law_935 ?_
  refine lv_i2l (v := ((xs (6 * i + 1)) : Int32).toInt64) S.1 S.2.1 dL_law_936 rfl ?_
  refine lv_bipush (v := 32) S.1 S.2.1 dL_law_937 (by decide) ?_
  refine lv_lshl (v := ((((xs (6 * i + 1)) : Int32).toInt64)) <<< ((32 : Int32).toInt64 &&& 63)) S.1 S.2.1 dL_law_939 rfl ?_
  refine lv_aload_n S.1 S.2.1 dL_law_940 rfl (lv_at hl 0 rfl) ?_
  refine lv_iload S.1 S.2.1 dL_law_941 (lv_at hl 4 rfl) ?_
  refine lv_iconst (v := 2) S.1 S.2.1 dL_law_943 (by decide) ?_
  refine lv_iadd S.1 S.2.1 dL_law_944 ?_
  refine cv_rei (show (((nI (6 * i))) + 2) = nI (6 * i + 2) from nI_add _ _) ?_
  refine cv_sld (j := 6 * i + 2) S h hX hbl hbA hL (by omega) dL_law_945 ?_
  refine lv_i2l (v := ((xs (6 * i + 2)) : Int32).toInt64) S.1 S.2.1 dL_law_946 rfl ?_
  refine lv_ldc2 (v := 4294967295) S.1 S.2.1 S.2.2.2.1 (S.2.2.2.2 (.constantLong RL 77 (4294967295)) (by decide +kernel)) dL_law_947 ?_
  refine lv_land S.1 S.2.1 dL_law_950 ?_
  refine lv_lor S.1 S.2.1 dL_law_951 ?_
  refine lv_aload_n S.1 S.2.1 dL_law_952 rfl (lv_at hl 0 rfl) ?_
  refine lv_iload S.1 S.2.1 dL_law_953 (lv_at hl 4 rfl) ?_
  refine lv_iconst (v := 3) S.1 S.2.1 dL_law_955 (by decide) ?_
  refine lv_iadd S.1 S.2.1 dL_law_956 ?_
  refine cv_rei (show (((nI (6 * i))) + 3) = nI (6 * i + 3) from nI_add _ _) ?_
  refine cv_sld (j := 6 * i + 3) S h hX hbl hbA hL (by omega) dL_law_957 ?_
  refine lv_aload_n S.1 S.2.1 dL_law_958 rfl (lv_at hl 3 rfl) ?_
  refine cvh_call (hh := [(0, 10, 13, 25), (0, 10, 17, 55), (0, 10, 21, 19)]) S K X h hl.1 (h_value l E σ ((((((((xs (6 * i + 1)) : Int32).toInt64)) <<< ((32 : Int32).toInt64 &&& 63))) ||| ((((((xs (6 * i + 2)) : Int32).toInt64)) &&& 4294967295)))) ((xs (6 * i + 3))) (c_value l hst E σ op P.1 C.2.1 cnt N O V (fun o => (C.2.2 o).2.2.2.2.2) ((((((((xs (6 * i + 1)) : Int32).toInt64)) <<< ((32 : Int32).toInt64 &&& 63))) ||| ((((((xs (6 * i + 2)) : Int32).toInt64)) &&& 4294967295)))) ((xs (6 * i + 3)))) (fun nm τ z => z.elim (fun z => Or.inl z.1) (fun z => Or.inr (z.elim (fun z => Or.inl z.1) (fun z => Or.inr z.1)))) ) (vx_cwSW 4 S.2.2.2.2 gL_law_L_value rfl rfl rfl (by decide +kernel) ⟨Nat.le_of_ble_eq_true rfl, Nat.le_of_ble_eq_true rfl⟩) rfl rfl (Nat.le_of_ble_eq_true rfl) hcs dL_law_959 (fun k σ1_ H locs hk h => ?_)
  have M1 := M.hi (fr_value (dv := dv) (op := op) (pw := pw0) (kn := kn0) (sa := sa0) (sr := sr0) (rd := rd0) (cnt := cnt) (N := N) (O := O) (V := V) hk)
  have hop : σ1_.2.2.1 49 2 = 0 ∨ σ1_.2.2.1 49 2 = 1 := by rw [M1.2.1]; exact P.1
  refine lv_istore (lv' := [(5, .int k), (0, .ref b), (1, .ref (E.2.1 0)), (2, .ref (E.2.1 49)), (3, .ref (E.2.1 59)), (4, .int (nI (6 * i)))]) S.1 S.2.1 dL_law_962 hl (by decide) rfl (fun ls hl => ?_)
  refine lv_aload_n S.1 S.2.1 dL_law_964 rfl (lv_at hl 3 rfl) ?_
  refine lv_aload_n S.1 S.2.1 dL_law_965 rfl (lv_at hl 1 rfl) ?_
  refine lv_iload S.1 S.2.1 dL_law_966 (lv_at hl 5 rfl) ?_
  refine lv_iconst (v := 1) S.1 S.2.1 dL_law_968 (by decide) ?_
  refine lv_iadd S.1 S.2.1 dL_law_969 ?_
  refine cv_rei (show (((nI (6 * i))) + 1) = nI (6 * i + 1) from nI_add _ _) ?_
  refine cv_sld (j := 6 * i + 1) S h hX hbl hbA hL (by omega) dL_law_970 ?_
  refine lv_i2l (v := ((xs (6 * i + 1)) : Int32).toInt64) S.1 S.2.1 dL_law_971 rfl ?_
  refine lv_bipush (v := 32) S.1 S.2.1 dL_law_972 (by decide) ?_
  refine lv_lshl (v := ((((xs (6 * i + 1)) : Int32).toInt64)) <<< ((32 : Int32).toInt64 &&& 63)) S.1 S.2.1 dL_law_974 rfl ?_
  refine lv_aload_n S.1 S.2.1 dL_law_975 rfl (lv_at hl 1 rfl) ?_
  refine lv_iload S.1 S.2.1 dL_law_976 (lv_at hl 5 rfl) ?_
  refine lv_iconst (v := 2) S.1 S.2.1 dL_law_978 (by decide) ?_
  refine lv_iadd S.1 S.2.1 dL_law_979 ?_
  refine cv_rei (show (((nI (6 * i))) + 2) = nI (6 * i + 2) from nI_add _ _) ?_
  refine cv_sld (j := 6 * i + 2) S h hX hbl hbA hL (by omega) dL_law_980 ?_
  refine lv_i2l (v := ((xs (6 * i + 2)) : Int32).toInt64) S.1 S.2.1 dL_law_981 rfl ?_
  refine lv_ldc2 (v := 4294967295) S.1 S.2.1 S.2.2.2.1 (S.2.2.2.2 (.constantLong RL 77 (4294967295)) (by decide +kernel)) dL_law_982 ?_
  refine lv_land S.1 S.2.1 dL_law_985 ?_
  refine lv_lor S.1 S.2.1 dL_law_986 ?_
  refine lv_aload_n S.1 S.2.1 dL_law_987 rfl (lv_at hl 1 rfl) ?_
  refine lv_iload S.1 S.2.1 dL_law_988 (lv_at hl 5 rfl) ?_
  refine lv_iconst (v := 3) S.1 S.2.1 dL_law_990 (by decide) ?_
  refine lv_iadd S.1 S.2.1 dL_law_991 ?_
  refine cv_rei (show (((nI (6 * i))) + 3) = nI (6 * i + 3) from nI_add _ _) ?_
  refine cv_sld (j := 6 * i + 3) S h hX hbl hbA hL (by omega) dL_law_992 ?_
  refine cv_calll (ci := 6) (C := RX6) (T := TX6) (N := 18) S K h hl.1 rfl rfl rfl (m_value l E σ1_ hop cnt N O V M1.2.2.1 M1.2.2.2.1 (fun o => (M1.2.2.2.2 (M1.2.1.symm.trans o)).2.2.2.2.2) ((((((((xs (6 * i + 1)) : Int32).toInt64)) <<< ((32 : Int32).toInt64 &&& 63))) ||| ((((((xs (6 * i + 2)) : Int32).toInt64)) &&& 4294967295)))) ((xs (6 * i + 3)))) (cwV 2 S.2.2.2.2 gL_law_X6_value rfl rfl rfl (by decide +kernel) ⟨Nat.le_of_ble_eq_true rfl, Nat.le_of_ble_eq_true rfl⟩) rfl rfl (Nat.le_of_ble_eq_true rfl) hcs dL_law_993 (fun r2 σ52 H locs hm h => ?_)
  have hT := st_value C M P hk hm
  refine lv_lstore (lv' := [(6, .long r2), (5, .int k), (0, .ref b), (1, .ref (E.2.1 0)), (2, .ref (E.2.1 49)), (3, .ref (E.2.1 59)), (4, .int (nI (6 * i)))]) S.1 S.2.1 dL_law_996 hl (by decide) rfl (fun ls hl => ?_)
  refine lv_aload_n S.1 S.2.1 dL_law_998 rfl (lv_at hl 4 rfl) ?_
  refine cv_calli (ci := 6) (C := RX6) (T := TX6) (N := 18) S K h hl.1 rfl rfl rfl (m_thrown l E σ52) (cwV 0 S.2.2.2.2 gL_law_X6_thrown rfl rfl rfl (by decide +kernel) ⟨Nat.le_of_ble_eq_true rfl, Nat.le_of_ble_eq_true rfl⟩) rfl rfl (Nat.le_of_ble_eq_true rfl) hcs dL_law_999 (fun r3 σ53 H locs ⟨ht, hs9⟩ h => ?_)
  rw [hs9] at h
  refine lv_iload S.1 S.2.1 dL_law_1002 (lv_at hl 1 rfl) ?_
  refine lv_icmp_eq (tgt := 1009) S.1 S.2.1 dL_law_1004 (by decide) (fun c1 => ?_) (fun c1 => ?_)
  · refine lv_iload S.1 S.2.1 dL_law_1009 (lv_at hl 1 rfl) ?_
    refine lv_if_ne (tgt := 1025) S.1 S.2.1 dL_law_1011 (by decide) (fun c2 => ?_) (fun c2 => ?_)
    · refine lv_goto (tgt := 1239) S.1 S.2.1 dL_law_1025 (by decide) ?_
      exact ih σ52 H locs ls hT.2.2 h (lv_sub hl [2, 3, 4, 5, 6] rfl)
    · have hO := hT.2.1 c2
      refine lv_aload_n S.1 S.2.1 dL_law_1014 rfl (lv_at hl 5 rfl) ?_
      refine lv_iconst (v := 0) S.1 S.2.1 dL_law_1015 (by decide) ?_
      refine cv_lald S K h 59 rfl (n := 1) rfl 0 rfl (by decide) dL_law_1016 ?_
      refine lv_lload S.1 S.2.1 dL_law_1017 (lv_at hl 0 rfl) ?_
      refine W.lcmp S.1 S.2.1 dL_law_1019 ?_
      refine lv_if_eq (tgt := 1025) S.1 S.2.1 dL_law_1020 (by decide) (fun c4 => ?_) (fun c4 => ?_)
      · refine lv_goto (tgt := 1239) S.1 S.2.1 dL_law_1025 (by decide) ?_
        exact ih σ52 H locs ls hT.2.2 h (lv_sub hl [2, 3, 4, 5, 6] rfl)
      · exact absurd (lg_eq0.mpr (hO)) c4
  · exact absurd (ht.trans hT.1) c1

set_option maxHeartbeats 4000000 in
set_option maxRecDepth 100000 in
theorem law_disk {p : Program} {l : Launch} {e : Env} {s : State} {m : MethodId} {below : List Frame} {meth : Method} {c : Code} {E : cv_E} {b L : Nat} {xs : Nat → Int32} (hst : l.stackTraces = false) (S : CallFix p m c cL_law 8 s #[Value.ref b] wsL_law RL) (K : cv_K E s) (X : cv_KX (cv_A E s.heap.size) s s.heap) (hX : va_X b L xs s s.heap) (hbl : b < s.heap.size) (hbA : ¬ cv_A E s.heap.size b) (hL : L ≤ 3072) {σ : cv_S} {H : Heap} {locs : List Loc} {ls : Array Slot} {cells slots : Nat} {Q : State → Prop} (i : Nat) (hi : 6 * i + 6 ≤ L) (hcs : cells + 2 ≤ room_1.cells ∧ slots + 6 * 2 ≤ room_1.slots) (hR : Rel σ) (h : cv_H E σ s H locs) (hl : lv_has ls 8 [(0, .ref b), (1, .ref (E.2.1 0)), (2, .ref (E.2.1 49)), (3, .ref (E.2.1 59)), (4, .int (nI (6 * i)))]) (ih : ∀ (σ' : cv_S) (H' : Heap) (locs' : List Loc) (ls' : Array Slot), Rel σ' → cv_H E σ' s H' locs' → lv_has ls' 8 [(0, .ref b), (1, .ref (E.2.1 0)), (2, .ref (E.2.1 49)), (3, .ref (E.2.1 59)), (4, .int (nI (6 * i)))] → W p l e room_1 s m #[Value.ref b] below meth c H' locs' (cells + 2) (slots + 6 * 2) Q (F0 m 1239 ls' [])) : W p l e room_1 s m #[Value.ref b] below meth c H locs cells slots Q (F0 m 1028 ls []) := by
  obtain ⟨dv, op, pw0, kn0, sa0, sr0, rd0, cnt, N, O, V, C, M, P⟩ := hR
  refine lv_aload_n S.1 S.2.1 dL_law_1028 rfl (lv_at hl 1 rfl) ?_
  refine lv_aload_n S.1 S.2.1 dL_law_1029 rfl (lv_at hl 0 rfl) ?_
  refine lv_iload S.1 S.2.1 dL_law_1030 (lv_at hl 4 rfl) ?_
  refine lv_iconst (v := 1) S.1 S.2.1 dL_law_1032 (by decide) ?_
  refine lv_iadd S.1 S.2.1 dL_law_1033 ?_
  refine cv_rei (show (((nI (6 * i))) + 1) = nI (6 * i + 1) from nI_add _ _) ?_
  refine cv_sld (j := 6 * i + 1) S h hX hbl hbA hL (by omega) dL_law_1034 ?_
  refine lv_aload_n S.1 S.2.1 dL_law_1035 rfl (lv_at hl 3 rfl) ?_
  refine cvh_call (hh := [(0, 9, 12, 55)]) S K X h hl.1 (h_disk l E σ ((xs (6 * i + 1))) (c_disk l hst E σ ((xs (6 * i + 1)))) (fun nm τ z => z.1) ) (vx_cwSW 3 S.2.2.2.2 gL_law_L_disk rfl rfl rfl (by decide +kernel) ⟨Nat.le_of_ble_eq_true rfl, Nat.le_of_ble_eq_true rfl⟩) rfl rfl (Nat.le_of_ble_eq_true rfl) hcs dL_law_1036 (fun k σ1_ H locs hk h => ?_)
  have M1 := M.hi (fr_disk (dv := dv) (op := op) (pw := pw0) (kn := kn0) (sa := sa0) (sr := sr0) (rd := rd0) (cnt := cnt) (N := N) (O := O) (V := V) hk)
  have hop : σ1_.2.2.1 49 2 = 0 ∨ σ1_.2.2.1 49 2 = 1 := by rw [M1.2.1]; exact P.1
  refine lv_istore (lv' := [(5, .int k), (0, .ref b), (1, .ref (E.2.1 0)), (2, .ref (E.2.1 49)), (3, .ref (E.2.1 59)), (4, .int (nI (6 * i)))]) S.1 S.2.1 dL_law_1039 hl (by decide) rfl (fun ls hl => ?_)
  refine lv_aload_n S.1 S.2.1 dL_law_1041 rfl (lv_at hl 3 rfl) ?_
  refine lv_aload_n S.1 S.2.1 dL_law_1042 rfl (lv_at hl 1 rfl) ?_
  refine lv_iload S.1 S.2.1 dL_law_1043 (lv_at hl 5 rfl) ?_
  refine lv_iconst (v := 1) S.1 S.2.1 dL_law_1045 (by decide) ?_
  refine lv_iadd S.1 S.2.1 dL_law_1046 ?_
  refine cv_rei (show (((nI (6 * i))) + 1) = nI (6 * i + 1) from nI_add _ _) ?_
  refine cv_sld (j := 6 * i + 1) S h hX hbl hbA hL (by omega) dL_law_1047 ?_
  refine cv_calli (ci := 6) (C := RX6) (T := TX6) (N := 18) S K h hl.1 rfl rfl rfl (m_disk l E σ1_ ((xs (6 * i + 1)))) (cwV 1 S.2.2.2.2 gL_law_X6_disk rfl rfl rfl (by decide +kernel) ⟨Nat.le_of_ble_eq_true rfl, Nat.le_of_ble_eq_true rfl⟩) rfl rfl (Nat.le_of_ble_eq_true rfl) hcs dL_law_1048 (fun r2 σ54 H locs hm h => ?_)
  have hT := st_disk C M P hk hm
  refine lv_istore (lv' := [(6, .int r2), (5, .int k), (0, .ref b), (1, .ref (E.2.1 0)), (2, .ref (E.2.1 49)), (3, .ref (E.2.1 59)), (4, .int (nI (6 * i)))]) S.1 S.2.1 dL_law_1051 hl (by decide) rfl (fun ls hl => ?_)
  refine lv_aload_n S.1 S.2.1 dL_law_1053 rfl (lv_at hl 4 rfl) ?_
  refine cv_calli (ci := 6) (C := RX6) (T := TX6) (N := 18) S K h hl.1 rfl rfl rfl (m_thrown l E σ54) (cwV 0 S.2.2.2.2 gL_law_X6_thrown rfl rfl rfl (by decide +kernel) ⟨Nat.le_of_ble_eq_true rfl, Nat.le_of_ble_eq_true rfl⟩) rfl rfl (Nat.le_of_ble_eq_true rfl) hcs dL_law_1054 (fun r3 σ55 H locs ⟨ht, hs9⟩ h => ?_)
  rw [hs9] at h
  refine lv_iload S.1 S.2.1 dL_law_1057 (lv_at hl 1 rfl) ?_
  refine lv_icmp_eq (tgt := 1064) S.1 S.2.1 dL_law_1059 (by decide) (fun c1 => ?_) (fun c1 => ?_)
  · refine lv_iload S.1 S.2.1 dL_law_1064 (lv_at hl 1 rfl) ?_
    refine lv_if_ne (tgt := 1081) S.1 S.2.1 dL_law_1066 (by decide) (fun c2 => ?_) (fun c2 => ?_)
    · refine lv_goto (tgt := 1239) S.1 S.2.1 dL_law_1081 (by decide) ?_
      exact ih σ54 H locs ls hT.2.2 h (lv_sub hl [2, 3, 4, 5, 6] rfl)
    · have hO := hT.2.1 c2
      refine lv_aload_n S.1 S.2.1 dL_law_1069 rfl (lv_at hl 5 rfl) ?_
      refine lv_iconst (v := 0) S.1 S.2.1 dL_law_1070 (by decide) ?_
      refine cv_lald S K h 59 rfl (n := 1) rfl 0 rfl (by decide) dL_law_1071 ?_
      refine lv_iload S.1 S.2.1 dL_law_1072 (lv_at hl 0 rfl) ?_
      refine lv_i2l (v := (r2 : Int32).toInt64) S.1 S.2.1 dL_law_1074 rfl ?_
      refine W.lcmp S.1 S.2.1 dL_law_1075 ?_
      refine lv_if_eq (tgt := 1081) S.1 S.2.1 dL_law_1076 (by decide) (fun c4 => ?_) (fun c4 => ?_)
      · refine lv_goto (tgt := 1239) S.1 S.2.1 dL_law_1081 (by decide) ?_
        exact ih σ54 H locs ls hT.2.2 h (lv_sub hl [2, 3, 4, 5, 6] rfl)
      · exact absurd (lg_eq0.mpr (hO)) c4
  · exact absurd (ht.trans hT.1) c1

set_option maxHeartbeats 4000000 in
set_option maxRecDepth 100000 in
theorem law_spoil {p : Program} {l : Launch} {e : Env} {s : State} {m : MethodId} {below : List Frame} {meth : Method} {c : Code} {E : cv_E} {b L : Nat} {xs : Nat → Int32} (hst : l.stackTraces = false) (S : CallFix p m c cL_law 8 s #[Value.ref b] wsL_law RL) (K : cv_K E s) (X : cv_KX (cv_A E s.heap.size) s s.heap) (hX : va_X b L xs s s.heap) (hbl : b < s.heap.size) (hbA : ¬ cv_A E s.heap.size b) (hL : L ≤ 3072) {σ : cv_S} {H : Heap} {locs : List Loc} {ls : Array Slot} {cells slots : Nat} {Q : State → Prop} (i : Nat) (hi : 6 * i + 6 ≤ L) (hcs : cells + 2 ≤ room_1.cells ∧ slots + 6 * 2 ≤ room_1.slots) (hR : Rel σ) (h : cv_H E σ s H locs) (hl : lv_has ls 8 [(0, .ref b), (1, .ref (E.2.1 0)), (2, .ref (E.2.1 49)), (3, .ref (E.2.1 59)), (4, .int (nI (6 * i)))]) (ih : ∀ (σ' : cv_S) (H' : Heap) (locs' : List Loc) (ls' : Array Slot), Rel σ' → cv_H E σ' s H' locs' → lv_has ls' 8 [(0, .ref b), (1, .ref (E.2.1 0)), (2, .ref (E.2.1 49)), (3, .ref (E.2.1 59)), (4, .int (nI (6 * i)))] → W p l e room_1 s m #[Value.ref b] below meth c H' locs' (cells + 2) (slots + 6 * 2) Q (F0 m 1239 ls' [])) : W p l e room_1 s m #[Value.ref b] below meth c H locs cells slots Q (F0 m 1084 ls []) := by
  obtain ⟨dv, op, pw0, kn0, sa0, sr0, rd0, cnt, N, O, V, C, M, P⟩ := hR
  refine lv_aload_n S.1 S.2.1 dL_law_1084 rfl (lv_at hl 1 rfl) ?_
  refine lv_aload_n S.1 S.2.1 dL_law_1085 rfl (lv_at hl 0 rfl) ?_
  refine lv_iload S.1 S.2.1 dL_law_1086 (lv_at hl 4 rfl) ?_
  refine lv_iconst (v := 1) S.1 S.2.1 dL_law_1088 (by decide) ?_
  refine lv_iadd S.1 S.2.1 dL_law_1089 ?_
  refine cv_rei (show (((nI (6 * i))) + 1) = nI (6 * i + 1) from nI_add _ _) ?_
  refine cv_sld (j := 6 * i + 1) S h hX hbl hbA hL (by omega) dL_law_1090 ?_
  refine lv_aload_n S.1 S.2.1 dL_law_1091 rfl (lv_at hl 0 rfl) ?_
  refine lv_iload S.1 S.2.1 dL_law_1092 (lv_at hl 4 rfl) ?_
  refine lv_iconst (v := 2) S.1 S.2.1 dL_law_1094 (by decide) ?_
  refine lv_iadd S.1 S.2.1 dL_law_1095 ?_
  refine cv_rei (show (((nI (6 * i))) + 2) = nI (6 * i + 2) from nI_add _ _) ?_
  refine cv_sld (j := 6 * i + 2) S h hX hbl hbA hL (by omega) dL_law_1096 ?_
  refine cvh_call (hh := [(0, 6, 9, 55)]) S K X h hl.1 (h_spoil l E σ ((xs (6 * i + 1))) ((xs (6 * i + 2))) (c_spoil l hst E σ ((xs (6 * i + 1))) ((xs (6 * i + 2)))) (fun nm τ z => z.1) ) (vx_cwSW 3 S.2.2.2.2 gL_law_L_spoil rfl rfl rfl (by decide +kernel) ⟨Nat.le_of_ble_eq_true rfl, Nat.le_of_ble_eq_true rfl⟩) rfl rfl (Nat.le_of_ble_eq_true rfl) hcs dL_law_1097 (fun k σ1_ H locs hk h => ?_)
  have M1 := M.hi (fr_spoil (dv := dv) (op := op) (pw := pw0) (kn := kn0) (sa := sa0) (sr := sr0) (rd := rd0) (cnt := cnt) (N := N) (O := O) (V := V) hk)
  have hop : σ1_.2.2.1 49 2 = 0 ∨ σ1_.2.2.1 49 2 = 1 := by rw [M1.2.1]; exact P.1
  refine lv_istore (lv' := [(5, .int k), (0, .ref b), (1, .ref (E.2.1 0)), (2, .ref (E.2.1 49)), (3, .ref (E.2.1 59)), (4, .int (nI (6 * i)))]) S.1 S.2.1 dL_law_1100 hl (by decide) rfl (fun ls hl => ?_)
  refine lv_aload_n S.1 S.2.1 dL_law_1102 rfl (lv_at hl 3 rfl) ?_
  refine lv_aload_n S.1 S.2.1 dL_law_1103 rfl (lv_at hl 1 rfl) ?_
  refine lv_iload S.1 S.2.1 dL_law_1104 (lv_at hl 5 rfl) ?_
  refine lv_iconst (v := 1) S.1 S.2.1 dL_law_1106 (by decide) ?_
  refine lv_iadd S.1 S.2.1 dL_law_1107 ?_
  refine cv_rei (show (((nI (6 * i))) + 1) = nI (6 * i + 1) from nI_add _ _) ?_
  refine cv_sld (j := 6 * i + 1) S h hX hbl hbA hL (by omega) dL_law_1108 ?_
  refine lv_aload_n S.1 S.2.1 dL_law_1109 rfl (lv_at hl 1 rfl) ?_
  refine lv_iload S.1 S.2.1 dL_law_1110 (lv_at hl 5 rfl) ?_
  refine lv_iconst (v := 2) S.1 S.2.1 dL_law_1112 (by decide) ?_
  refine lv_iadd S.1 S.2.1 dL_law_1113 ?_
  refine cv_rei (show (((nI (6 * i))) + 2) = nI (6 * i + 2) from nI_add _ _) ?_
  refine cv_sld (j := 6 * i + 2) S h hX hbl hbA hL (by omega) dL_law_1114 ?_
  refine cv_callv (ci := 6) (C := RX6) (T := TX6) (N := 18) S K h hl.1 rfl rfl rfl (m_spoil l E σ1_ ((xs (6 * i + 1))) ((xs (6 * i + 2)))) (cwV 2 S.2.2.2.2 gL_law_X6_spoil rfl rfl rfl (by decide +kernel) ⟨Nat.le_of_ble_eq_true rfl, Nat.le_of_ble_eq_true rfl⟩) rfl rfl (Nat.le_of_ble_eq_true rfl) hcs dL_law_1115 (fun σ56 H locs hm h => ?_)
  have hT := st_spoil C M P hk hm
  refine lv_aload_n S.1 S.2.1 dL_law_1118 rfl (lv_at hl 3 rfl) ?_
  refine cv_calli (ci := 6) (C := RX6) (T := TX6) (N := 18) S K h hl.1 rfl rfl rfl (m_thrown l E σ56) (cwV 0 S.2.2.2.2 gL_law_X6_thrown rfl rfl rfl (by decide +kernel) ⟨Nat.le_of_ble_eq_true rfl, Nat.le_of_ble_eq_true rfl⟩) rfl rfl (Nat.le_of_ble_eq_true rfl) hcs dL_law_1119 (fun r3 σ57 H locs ⟨ht, hs9⟩ h => ?_)
  rw [hs9] at h
  refine lv_iload S.1 S.2.1 dL_law_1122 (lv_at hl 0 rfl) ?_
  refine lv_icmp_eq (tgt := 1129) S.1 S.2.1 dL_law_1124 (by decide) (fun c1 => ?_) (fun c1 => ?_)
  · refine lv_goto (tgt := 1239) S.1 S.2.1 dL_law_1129 (by decide) ?_
    exact ih σ56 H locs ls hT.2 h (lv_sub hl [1, 2, 3, 4, 5] rfl)
  · exact absurd (ht.trans hT.1) c1

set_option maxHeartbeats 4000000 in
set_option maxRecDepth 100000 in
theorem law_isGood {p : Program} {l : Launch} {e : Env} {s : State} {m : MethodId} {below : List Frame} {meth : Method} {c : Code} {E : cv_E} {b L : Nat} {xs : Nat → Int32} (hst : l.stackTraces = false) (S : CallFix p m c cL_law 8 s #[Value.ref b] wsL_law RL) (K : cv_K E s) (X : cv_KX (cv_A E s.heap.size) s s.heap) (hX : va_X b L xs s s.heap) (hbl : b < s.heap.size) (hbA : ¬ cv_A E s.heap.size b) (hL : L ≤ 3072) {σ : cv_S} {H : Heap} {locs : List Loc} {ls : Array Slot} {cells slots : Nat} {Q : State → Prop} (i : Nat) (hi : 6 * i + 6 ≤ L) (hcs : cells + 2 ≤ room_1.cells ∧ slots + 6 * 2 ≤ room_1.slots) (hR : Rel σ) (h : cv_H E σ s H locs) (hl : lv_has ls 8 [(0, .ref b), (1, .ref (E.2.1 0)), (2, .ref (E.2.1 49)), (3, .ref (E.2.1 59)), (4, .int (nI (6 * i)))]) (ih : ∀ (σ' : cv_S) (H' : Heap) (locs' : List Loc) (ls' : Array Slot), Rel σ' → cv_H E σ' s H' locs' → lv_has ls' 8 [(0, .ref b), (1, .ref (E.2.1 0)), (2, .ref (E.2.1 49)), (3, .ref (E.2.1 59)), (4, .int (nI (6 * i)))] → W p l e room_1 s m #[Value.ref b] below meth c H' locs' (cells + 2) (slots + 6 * 2) Q (F0 m 1239 ls' [])) : W p l e room_1 s m #[Value.ref b] below meth c H locs cells slots Q (F0 m 1132 ls []) := by
  obtain ⟨dv, op, pw0, kn0, sa0, sr0, rd0, cnt, N, O, V, C, M, P⟩ := hR
  refine lv_aload_n S.1 S.2.1 dL_law_1132 rfl (lv_at hl 1 rfl) ?_
  refine lv_aload_n S.1 S.2.1 dL_law_1133 rfl (lv_at hl 0 rfl) ?_
  refine lv_iload S.1 S.2.1 dL_law_1134 (lv_at hl 4 rfl) ?_
  refine lv_iconst (v := 1) S.1 S.2.1 dL_law_1136 (by decide) ?_
  refine lv_iadd S.1 S.2.1 dL_law_1137 ?_
  refine cv_rei (show (((nI (6 * i))) + 1) = nI (6 * i + 1) from nI_add _ _) ?_
  refine cv_sld (j := 6 * i + 1) S h hX hbl hbA hL (by omega) dL_law_1138 ?_
  refine lv_aload_n S.1 S.2.1 dL_law_1139 rfl (lv_at hl 0 rfl) ?_
  refine lv_iload S.1 S.2.1 dL_law_1140 (lv_at hl 4 rfl) ?_
  refine lv_iconst (v := 2) S.1 S.2.1 dL_law_1142 (by decide) ?_
  refine lv_iadd S.1 S.2.1 dL_law_1143 ?_
  refine cv_rei (show (((nI (6 * i))) + 2) = nI (6 * i + 2) from nI_add _ _) ?_
  refine cv_sld (j := 6 * i + 2) S h hX hbl hbA hL (by omega) dL_law_1144 ?_
  refine lv_i2l (v := ((xs (6 * i + 2)) : Int32).toInt64) S.1 S.2.1 dL_law_1145 rfl ?_
  refine lv_bipush (v := 32) S.1 S.2.1 dL_law_1146 (by decide) ?_
  refine lv_lshl (v := ((((xs (6 * i + 2)) : Int32).toInt64)) <<< ((32 : Int32).toInt64 &&& 63)) S.1 S.2.1 dL_law_1148 rfl ?_
  refine lv_aload_n S.1 S.2.1 dL_law_1149 rfl (lv_at hl 0 rfl) ?_
  refine lv_iload S.1 S.2.1 dL_law_1150 (lv_at hl 4 rfl) ?_
  refine lv_iconst (v := 3) S.1 S.2.1 dL_law_1152 (by decide) ?_
  refine lv_iadd S.1 S.2.1 dL_law_1153 ?_
  refine cv_rei (show (((nI (6 * i))) + 3) = nI (6 * i + 3) from nI_add _ _) ?_
  refine cv_sld (j := 6 * i + 3) S h hX hbl hbA hL (by omega) dL_law_1154 ?_
  refine lv_i2l (v := ((xs (6 * i + 3)) : Int32).toInt64) S.1 S.2.1 dL_law_1155 rfl ?_
  refine lv_ldc2 (v := 4294967295) S.1 S.2.1 S.2.2.2.1 (S.2.2.2.2 (.constantLong RL 77 (4294967295)) (by decide +kernel)) dL_law_1156 ?_
  refine lv_land S.1 S.2.1 dL_law_1159 ?_
  refine lv_lor S.1 S.2.1 dL_law_1160 ?_
  refine lv_aload_n S.1 S.2.1 dL_law_1161 rfl (lv_at hl 3 rfl) ?_
  refine cvh_call (hh := [(0, 18, 21, 55)]) S K X h hl.1 (h_isGood l E σ ((xs (6 * i + 1))) ((((((((xs (6 * i + 2)) : Int32).toInt64)) <<< ((32 : Int32).toInt64 &&& 63))) ||| ((((((xs (6 * i + 3)) : Int32).toInt64)) &&& 4294967295)))) (c_isGood l hst E σ dv C.1 ((xs (6 * i + 1))) ((((((((xs (6 * i + 2)) : Int32).toInt64)) <<< ((32 : Int32).toInt64 &&& 63))) ||| ((((((xs (6 * i + 3)) : Int32).toInt64)) &&& 4294967295))))) (fun nm τ z => z.1) (fun r τ ⟨_, _, _, _, z⟩ => z.elim (fun y => Or.inr y.1) (fun y => Or.inl y.1))) (vx_cwSW 4 S.2.2.2.2 gL_law_L_isGood rfl rfl rfl (by decide +kernel) ⟨Nat.le_of_ble_eq_true rfl, Nat.le_of_ble_eq_true rfl⟩) rfl rfl (Nat.le_of_ble_eq_true rfl) hcs dL_law_1162 (fun k σ1_ H locs hk h => ?_)
  have M1 := M.hi (fr_isGood (dv := dv) (op := op) (pw0 := pw0) (kn0 := kn0) (sa0 := sa0) (sr0 := sr0) (rd0 := rd0) (cnt := cnt) (N := N) (O := O) (V := V) hk)
  have hop : σ1_.2.2.1 49 2 = 0 ∨ σ1_.2.2.1 49 2 = 1 := by rw [M1.2.1]; exact P.1
  refine lv_istore (lv' := [(5, .int k), (0, .ref b), (1, .ref (E.2.1 0)), (2, .ref (E.2.1 49)), (3, .ref (E.2.1 59)), (4, .int (nI (6 * i)))]) S.1 S.2.1 dL_law_1165 hl (by decide) rfl (fun ls hl => ?_)
  refine lv_aload_n S.1 S.2.1 dL_law_1167 rfl (lv_at hl 3 rfl) ?_
  refine lv_aload_n S.1 S.2.1 dL_law_1168 rfl (lv_at hl 1 rfl) ?_
  refine lv_iload S.1 S.2.1 dL_law_1169 (lv_at hl 5 rfl) ?_
  refine lv_iconst (v := 1) S.1 S.2.1 dL_law_1171 (by decide) ?_
  refine lv_iadd S.1 S.2.1 dL_law_1172 ?_
  refine cv_rei (show (((nI (6 * i))) + 1) = nI (6 * i + 1) from nI_add _ _) ?_
  refine cv_sld (j := 6 * i + 1) S h hX hbl hbA hL (by omega) dL_law_1173 ?_
  refine lv_aload_n S.1 S.2.1 dL_law_1174 rfl (lv_at hl 1 rfl) ?_
  refine lv_iload S.1 S.2.1 dL_law_1175 (lv_at hl 5 rfl) ?_
  refine lv_iconst (v := 2) S.1 S.2.1 dL_law_1177 (by decide) ?_
  refine lv_iadd S.1 S.2.1 dL_law_1178 ?_
  refine cv_rei (show (((nI (6 * i))) + 2) = nI (6 * i + 2) from nI_add _ _) ?_
  refine cv_sld (j := 6 * i + 2) S h hX hbl hbA hL (by omega) dL_law_1179 ?_
  refine lv_i2l (v := ((xs (6 * i + 2)) : Int32).toInt64) S.1 S.2.1 dL_law_1180 rfl ?_
  refine lv_bipush (v := 32) S.1 S.2.1 dL_law_1181 (by decide) ?_
  refine lv_lshl (v := ((((xs (6 * i + 2)) : Int32).toInt64)) <<< ((32 : Int32).toInt64 &&& 63)) S.1 S.2.1 dL_law_1183 rfl ?_
  refine lv_aload_n S.1 S.2.1 dL_law_1184 rfl (lv_at hl 1 rfl) ?_
  refine lv_iload S.1 S.2.1 dL_law_1185 (lv_at hl 5 rfl) ?_
  refine lv_iconst (v := 3) S.1 S.2.1 dL_law_1187 (by decide) ?_
  refine lv_iadd S.1 S.2.1 dL_law_1188 ?_
  refine cv_rei (show (((nI (6 * i))) + 3) = nI (6 * i + 3) from nI_add _ _) ?_
  refine cv_sld (j := 6 * i + 3) S h hX hbl hbA hL (by omega) dL_law_1189 ?_
  refine lv_i2l (v := ((xs (6 * i + 3)) : Int32).toInt64) S.1 S.2.1 dL_law_1190 rfl ?_
  refine lv_ldc2 (v := 4294967295) S.1 S.2.1 S.2.2.2.1 (S.2.2.2.2 (.constantLong RL 77 (4294967295)) (by decide +kernel)) dL_law_1191 ?_
  refine lv_land S.1 S.2.1 dL_law_1194 ?_
  refine lv_lor S.1 S.2.1 dL_law_1195 ?_
  refine cv_calli (ci := 6) (C := RX6) (T := TX6) (N := 18) S K h hl.1 rfl rfl rfl (m_isGood l E σ1_ dv M1.1 ((xs (6 * i + 1))) ((((((((xs (6 * i + 2)) : Int32).toInt64)) <<< ((32 : Int32).toInt64 &&& 63))) ||| ((((((xs (6 * i + 3)) : Int32).toInt64)) &&& 4294967295))))) (cwV 2 S.2.2.2.2 gL_law_X6_isGood rfl rfl rfl (by decide +kernel) ⟨Nat.le_of_ble_eq_true rfl, Nat.le_of_ble_eq_true rfl⟩) rfl rfl (Nat.le_of_ble_eq_true rfl) hcs dL_law_1196 (fun r2 σ58 H locs hm h => ?_)
  have hT := st_isGood C M P hk hm
  refine lv_istore (lv' := [(6, .int r2), (5, .int k), (0, .ref b), (1, .ref (E.2.1 0)), (2, .ref (E.2.1 49)), (3, .ref (E.2.1 59)), (4, .int (nI (6 * i)))]) S.1 S.2.1 dL_law_1199 hl (by decide) rfl (fun ls hl => ?_)
  refine lv_aload_n S.1 S.2.1 dL_law_1201 rfl (lv_at hl 4 rfl) ?_
  refine cv_calli (ci := 6) (C := RX6) (T := TX6) (N := 18) S K h hl.1 rfl rfl rfl (m_thrown l E σ58) (cwV 0 S.2.2.2.2 gL_law_X6_thrown rfl rfl rfl (by decide +kernel) ⟨Nat.le_of_ble_eq_true rfl, Nat.le_of_ble_eq_true rfl⟩) rfl rfl (Nat.le_of_ble_eq_true rfl) hcs dL_law_1202 (fun r3 σ59 H locs ⟨ht, hs9⟩ h => ?_)
  rw [hs9] at h
  refine lv_iload S.1 S.2.1 dL_law_1205 (lv_at hl 1 rfl) ?_
  refine lv_icmp_eq (tgt := 1212) S.1 S.2.1 dL_law_1207 (by decide) (fun c1 => ?_) (fun c1 => ?_)
  · refine lv_iload S.1 S.2.1 dL_law_1212 (lv_at hl 1 rfl) ?_
    refine lv_if_ne (tgt := 1236) S.1 S.2.1 dL_law_1214 (by decide) (fun c2 => ?_) (fun c2 => ?_)
    · refine lv_goto (tgt := 1239) S.1 S.2.1 dL_law_1236 (by decide) ?_
      exact ih σ58 H locs ls hT.2.2 h (lv_sub hl [2, 3, 4, 5, 6] rfl)
    · have hO := hT.2.1 c2
      refine lv_aload_n S.1 S.2.1 dL_law_1217 rfl (lv_at hl 5 rfl) ?_
      refine lv_iconst (v := 0) S.1 S.2.1 dL_law_1218 (by decide) ?_
      refine cv_lald S K h 59 rfl (n := 1) rfl 0 rfl (by decide) dL_law_1219 ?_
      refine lv_iload S.1 S.2.1 dL_law_1220 (lv_at hl 0 rfl) ?_
      refine lv_if_eq (tgt := 1229) S.1 S.2.1 dL_law_1222 (by decide) (fun c3 => ?_) (fun c3 => ?_)
      · refine lv_lconst (v := 0) S.1 S.2.1 dL_law_1229 (by decide) ?_
        refine W.lcmp S.1 S.2.1 dL_law_1230 ?_
        refine lv_if_eq (tgt := 1236) S.1 S.2.1 dL_law_1231 (by decide) (fun c4 => ?_) (fun c4 => ?_)
        · refine lv_goto (tgt := 1239) S.1 S.2.1 dL_law_1236 (by decide) ?_
          exact ih σ58 H locs ls hT.2.2 h (lv_sub hl [2, 3, 4, 5, 6] rfl)
        · exact absurd (lg_eq0.mpr (by rw [hO, if_pos c3])) c4
      · refine lv_lconst (v := 1) S.1 S.2.1 dL_law_1225 (by decide) ?_
        refine lv_goto (tgt := 1230) S.1 S.2.1 dL_law_1226 (by decide) ?_
        refine W.lcmp S.1 S.2.1 dL_law_1230 ?_
        refine lv_if_eq (tgt := 1236) S.1 S.2.1 dL_law_1231 (by decide) (fun c4 => ?_) (fun c4 => ?_)
        · refine lv_goto (tgt := 1239) S.1 S.2.1 dL_law_1236 (by decide) ?_
          exact ih σ58 H locs ls hT.2.2 h (lv_sub hl [2, 3, 4, 5, 6] rfl)
        · exact absurd (lg_eq0.mpr (by rw [hO, if_neg c3])) c4
  · exact absurd (ht.trans hT.1) c1

set_option maxHeartbeats 4000000 in
set_option maxRecDepth 100000 in
theorem law_shut {p : Program} {l : Launch} {e : Env} {s : State} {m : MethodId} {below : List Frame} {meth : Method} {c : Code} {E : cv_E} {b L : Nat} {xs : Nat → Int32} (hst : l.stackTraces = false) (S : CallFix p m c cL_law 8 s #[Value.ref b] wsL_law RL) (K : cv_K E s) (X : cv_KX (cv_A E s.heap.size) s s.heap) (hX : va_X b L xs s s.heap) (hbl : b < s.heap.size) (hbA : ¬ cv_A E s.heap.size b) (hL : L ≤ 3072) {σ : cv_S} {H : Heap} {locs : List Loc} {ls : Array Slot} {cells slots : Nat} {Q : State → Prop} (i : Nat) (hi : 6 * i + 6 ≤ L) (hcs : cells + 2 ≤ room_1.cells ∧ slots + 6 * 2 ≤ room_1.slots) (hR : Rel σ) (h : cv_H E σ s H locs) (hl : lv_has ls 8 [(0, .ref b), (1, .ref (E.2.1 0)), (2, .ref (E.2.1 49)), (3, .ref (E.2.1 59)), (4, .int (nI (6 * i)))]) (ih : ∀ (σ' : cv_S) (H' : Heap) (locs' : List Loc) (ls' : Array Slot), Rel σ' → cv_H E σ' s H' locs' → lv_has ls' 8 [(0, .ref b), (1, .ref (E.2.1 0)), (2, .ref (E.2.1 49)), (3, .ref (E.2.1 59)), (4, .int (nI (6 * i)))] → W p l e room_1 s m #[Value.ref b] below meth c H' locs' (cells + 2) (slots + 6 * 2) Q (F0 m 1239 ls' [])) : W p l e room_1 s m #[Value.ref b] below meth c H locs cells slots Q (F0 m 339 ls []) := by
  obtain ⟨dv, op, pw0, kn0, sa0, sr0, rd0, cnt, N, O, V, C, M, P⟩ := hR
  refine lv_aload_n S.1 S.2.1 dL_law_339 rfl (lv_at hl 1 rfl) ?_
  refine cv_calli (ci := 5) (C := RX5) (T := TX5) (N := 7) S K h hl.1 rfl rfl rfl (c_shut l E σ op P.1 C.2.1) (cwV 0 S.2.2.2.2 gL_law_X5_shut rfl rfl rfl (by decide +kernel) ⟨Nat.le_of_ble_eq_true rfl, Nat.le_of_ble_eq_true rfl⟩) rfl rfl (Nat.le_of_ble_eq_true rfl) ⟨Nat.le_trans (Nat.le_add_right _ _) hcs.1, Nat.le_trans (Nat.le_add_right _ _) hcs.2⟩ dL_law_340 (fun r1 σ60 H locs ⟨h1, h2⟩ h => ?_)
  refine lv_aload_n S.1 S.2.1 dL_law_343 rfl (lv_at hl 2 rfl) ?_
  refine cv_calli (ci := 6) (C := RX6) (T := TX6) (N := 18) S K h hl.1 rfl rfl rfl (m_shut l E σ60 (by rw [show σ60.2.2.1 49 2 = op from by rw [h2]; exact M.2.1]; exact P.1)) (cwV 0 S.2.2.2.2 gL_law_X6_shut rfl rfl rfl (by decide +kernel) ⟨Nat.le_of_ble_eq_true rfl, Nat.le_of_ble_eq_true rfl⟩) rfl rfl (Nat.le_of_ble_eq_true rfl) ⟨Nat.le_trans (Nat.le_add_right _ _) hcs.1, Nat.le_trans (Nat.le_add_right _ _) hcs.2⟩ dL_law_344 (fun r2 σ61 H locs ⟨h3, h4⟩ h => ?_)
  refine lv_icmp_eq (tgt := 1239) S.1 S.2.1 dL_law_347 (by decide) (fun c1 => ?_) (fun c1 => ?_)
  · refine W.widen (k := cells + 2) (n := slots + 6 * 2) (Nat.le_add_right _ _) (Nat.le_add_right _ _) ?_
    exact ih σ61 H locs ls (by rw [h4, h2]; exact st_shut C M) h hl
  · exact absurd (h1.trans (h3.trans (by rw [h2]; exact M.2.1)).symm) c1

set_option maxHeartbeats 4000000 in
set_option maxRecDepth 100000 in
theorem law_isOpen {p : Program} {l : Launch} {e : Env} {s : State} {m : MethodId} {below : List Frame} {meth : Method} {c : Code} {E : cv_E} {b L : Nat} {xs : Nat → Int32} (hst : l.stackTraces = false) (S : CallFix p m c cL_law 8 s #[Value.ref b] wsL_law RL) (K : cv_K E s) (X : cv_KX (cv_A E s.heap.size) s s.heap) (hX : va_X b L xs s s.heap) (hbl : b < s.heap.size) (hbA : ¬ cv_A E s.heap.size b) (hL : L ≤ 3072) {σ : cv_S} {H : Heap} {locs : List Loc} {ls : Array Slot} {cells slots : Nat} {Q : State → Prop} (i : Nat) (hi : 6 * i + 6 ≤ L) (hcs : cells + 2 ≤ room_1.cells ∧ slots + 6 * 2 ≤ room_1.slots) (hR : Rel σ) (h : cv_H E σ s H locs) (hl : lv_has ls 8 [(0, .ref b), (1, .ref (E.2.1 0)), (2, .ref (E.2.1 49)), (3, .ref (E.2.1 59)), (4, .int (nI (6 * i)))]) (ih : ∀ (σ' : cv_S) (H' : Heap) (locs' : List Loc) (ls' : Array Slot), Rel σ' → cv_H E σ' s H' locs' → lv_has ls' 8 [(0, .ref b), (1, .ref (E.2.1 0)), (2, .ref (E.2.1 49)), (3, .ref (E.2.1 59)), (4, .int (nI (6 * i)))] → W p l e room_1 s m #[Value.ref b] below meth c H' locs' (cells + 2) (slots + 6 * 2) Q (F0 m 1239 ls' [])) : W p l e room_1 s m #[Value.ref b] below meth c H locs cells slots Q (F0 m 352 ls []) := by
  obtain ⟨dv, op, pw0, kn0, sa0, sr0, rd0, cnt, N, O, V, C, M, P⟩ := hR
  refine lv_aload_n S.1 S.2.1 dL_law_352 rfl (lv_at hl 1 rfl) ?_
  refine cv_calli (ci := 5) (C := RX5) (T := TX5) (N := 7) S K h hl.1 rfl rfl rfl (c_isOpen l E σ op P.1 C.2.1) (cwV 0 S.2.2.2.2 gL_law_X5_isOpen rfl rfl rfl (by decide +kernel) ⟨Nat.le_of_ble_eq_true rfl, Nat.le_of_ble_eq_true rfl⟩) rfl rfl (Nat.le_of_ble_eq_true rfl) ⟨Nat.le_trans (Nat.le_add_right _ _) hcs.1, Nat.le_trans (Nat.le_add_right _ _) hcs.2⟩ dL_law_353 (fun r1 σ62 H locs ⟨h1, h2⟩ h => ?_)
  refine lv_aload_n S.1 S.2.1 dL_law_356 rfl (lv_at hl 2 rfl) ?_
  refine cv_calli (ci := 6) (C := RX6) (T := TX6) (N := 18) S K h hl.1 rfl rfl rfl (m_isOpen l E σ62 (by rw [show σ62.2.2.1 49 2 = op from by rw [h2]; exact M.2.1]; exact P.1)) (cwV 0 S.2.2.2.2 gL_law_X6_isOpen rfl rfl rfl (by decide +kernel) ⟨Nat.le_of_ble_eq_true rfl, Nat.le_of_ble_eq_true rfl⟩) rfl rfl (Nat.le_of_ble_eq_true rfl) ⟨Nat.le_trans (Nat.le_add_right _ _) hcs.1, Nat.le_trans (Nat.le_add_right _ _) hcs.2⟩ dL_law_357 (fun r2 σ63 H locs ⟨h3, h4⟩ h => ?_)
  refine lv_icmp_eq (tgt := 1239) S.1 S.2.1 dL_law_360 (by decide) (fun c1 => ?_) (fun c1 => ?_)
  · refine W.widen (k := cells + 2) (n := slots + 6 * 2) (Nat.le_add_right _ _) (Nat.le_add_right _ _) ?_
    exact ih σ63 H locs ls (by rw [h4, h2]; exact st_isOpen C M P) h hl
  · exact absurd (h1.trans (h3.trans (by rw [h2]; exact M.2.1)).symm) c1
