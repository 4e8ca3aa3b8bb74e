/-! 14: ByteRow, and the stir of Cipher -/
set_option maxHeartbeats 4000000 in
set_option maxRecDepth 100000 in
/-- bytes b .. b + n - 1 become those of v, the lowest first -/
theorem c_setNumber (l : Launch) (E : cv_E) (σ : cv_S) (b n : Nat) (v : Int64) (hb : b + n ≤ 300) : cv_Mv l E yX0_setNumber wsX0_setNumber (cv_R 1) [.ref (E.2.1 8), .int (nI b), .long v, .int (nI n)] σ (fun τ => τ = cv_uI σ 9 (pu_put (σ.1 9) (pu_byt v) b n)) := by
  intro sz
  refine cv_in (ws := wsX0_setNumber) (cc := cX0_setNumber) (maxL := 6) (ret := none) (own := RX0) rfl (by decide) rfl (Nat.le_of_ble_eq_true rfl) ?_
  intro p e s m below meth c S K hr hlk hsz h ls hl
  have hl : lv_has ls 6 [(0, .ref (E.2.1 8)), (1, .int (nI b)), (2, .long v), (4, .int (nI n))] := hl
  have hinX0 : ∀ w ∈ u_ws RX0 TX0 1, w ∈ wsX0_setNumber := by decide +kernel
  have hf_9 := S.2.2.2.2 (.fieldLink RX0 9 "CrashVault$ByteRow" "bytes" "[I") (by decide +kernel)
  refine lv_iconst (v := 0) S.1 S.2.1 dX0_setNumber_0 (by decide) ?_
  refine lv_istore (lv' := [(5, .int 0), (0, .ref (E.2.1 8)), (1, .int (nI b)), (2, .long v), (4, .int (nI n))]) S.1 S.2.1 dX0_setNumber_1 hl (by decide) rfl (fun ls hl => ?_)
  refine cv_loop (α := Unit) (nL := 6) n (fun i a τ => τ = cv_uI σ 9 (pu_put (σ.1 9) (pu_byt v) b i)) (fun i a => [(5, .int (nI i)), (0, .ref (E.2.1 8)), (1, .int (nI b)), (2, .long v), (4, .int (nI n))]) ?_ ?_ 0 () σ _ _ _ (by omega) (by rw [pu_put_0, cv_uI_self]) h hl
  · intro i a τ H locs ls hi hI h hl ih
    have hl : lv_has ls 6 [(5, .int (nI i)), (0, .ref (E.2.1 8)), (1, .int (nI b)), (2, .long v), (4, .int (nI n))] := hl
    refine lv_iload S.1 S.2.1 dX0_setNumber_3 (lv_at hl 0 rfl) ?_
    refine lv_iload S.1 S.2.1 dX0_setNumber_5 (lv_at hl 4 rfl) ?_
    refine lv_icmp_ge (tgt := 37) S.1 S.2.1 dX0_setNumber_7 (by decide) (fun c1 => ?_) (fun c1 => ?_)
    · exact absurd c1 (nI_ge hi (by omega))
    · refine lv_aload_n S.1 S.2.1 dX0_setNumber_10 rfl (lv_at hl 1 rfl) ?_
      refine cv_gf (ci := 0) (C := RX0) (T := TX0) (N := 1) (v := .ref (E.2.1 9)) S K h 8 rfl hinX0 rfl rfl 0 (by decide) hf_9 rfl rfl dX0_setNumber_11 ?_
      refine lv_iload_n S.1 S.2.1 dX0_setNumber_14 rfl (lv_at hl 2 rfl) ?_
      refine lv_iload S.1 S.2.1 dX0_setNumber_15 (lv_at hl 0 rfl) ?_
      refine lv_iadd S.1 S.2.1 dX0_setNumber_17 ?_
      refine lv_lload_n S.1 S.2.1 dX0_setNumber_18 rfl (lv_at hl 3 rfl) ?_
      refine lv_bipush (v := 8) S.1 S.2.1 dX0_setNumber_19 (by decide) ?_
      refine lv_iload S.1 S.2.1 dX0_setNumber_21 (lv_at hl 0 rfl) ?_
      refine lv_imul S.1 S.2.1 dX0_setNumber_23 ?_
      refine lv_lushr (v := (v.toUInt64 >>> (((8 * ((nI i))) : Int32).toInt64.toUInt64 &&& Int64.toUInt64 63)).toInt64) S.1 S.2.1 dX0_setNumber_24 rfl ?_
      refine lv_l2i (v := (((v.toUInt64 >>> (((8 * ((nI i))) : Int32).toInt64.toUInt64 &&& Int64.toUInt64 63)).toInt64) : Int64).toInt32) S.1 S.2.1 dX0_setNumber_25 rfl ?_
      refine lv_sipush (v := 255) S.1 S.2.1 dX0_setNumber_26 (by decide) ?_
      refine lv_iand S.1 S.2.1 dX0_setNumber_29 ?_
      refine lv_topi (fun x ex => ?_)
      refine cv_iast (x := x) S K h 9 rfl (n := 300) rfl (b + i) (nI_add b i) (by omega) dX0_setNumber_30 (fun σ1 H locs eσ1 h => ?_)
      obtain ⟨z, ez⟩ : ∃ y : Int32, y = ((nI i)) + 1 := ⟨_, rfl⟩
      refine lv_iinc (v := z) (lv' := [(5, .int z), (0, .ref (E.2.1 8)), (1, .int (nI b)), (2, .long v), (4, .int (nI n))]) S.1 S.2.1 dX0_setNumber_31 hl (k := 0) rfl (by rw [ez]; rfl) (by decide) rfl (fun ls hl => ?_)
      refine lv_goto (tgt := 3) S.1 S.2.1 dX0_setNumber_34 (by decide) ?_
      rw [ez, nI_1] at hl
      exact ih () σ1 H locs ls (by rw [eσ1, hI, cv_I1, if_pos rfl, cv_uI_uI, ← pu_put_s, ex]; rfl) h hl
  · intro a τ H locs ls hI h hl
    have hl : lv_has ls 6 [(5, .int (nI n)), (0, .ref (E.2.1 8)), (1, .int (nI b)), (2, .long v), (4, .int (nI n))] := hl
    refine lv_iload S.1 S.2.1 dX0_setNumber_3 (lv_at hl 0 rfl) ?_
    refine lv_iload S.1 S.2.1 dX0_setNumber_5 (lv_at hl 4 rfl) ?_
    refine lv_icmp_ge (tgt := 37) S.1 S.2.1 dX0_setNumber_7 (by decide) (fun c1 => ?_) (fun c1 => ?_)
    · exact cv_vret S hr hlk hsz h hI dX0_setNumber_37
    · exact absurd (Int32.le_refl _) c1

set_option maxHeartbeats 4000000 in
set_option maxRecDepth 100000 in
/-- the number in the bytes b .. b + n - 1 -/
theorem c_numberAt (l : Launch) (E : cv_E) (σ : cv_S) (b n : Nat) (hb : b + n ≤ 300) : cv_Ml l E yX0_numberAt wsX0_numberAt (cv_R 1) [.ref (E.2.1 8), .int (nI b), .int (nI n)] σ (fun r τ => r = pu_num (σ.1 9) b n ∧ τ = σ) := by
  intro sz
  refine cv_in (ws := wsX0_numberAt) (cc := cX0_numberAt) (maxL := 6) (ret := (some .long)) (own := RX0) rfl (by decide) rfl (Nat.le_of_ble_eq_true rfl) ?_
  intro p e s m below meth c S K hr hlk hsz h ls hl
  have hl : lv_has ls 6 [(0, .ref (E.2.1 8)), (1, .int (nI b)), (2, .int (nI n))] := hl
  have hinX0 : ∀ w ∈ u_ws RX0 TX0 1, w ∈ wsX0_numberAt := by decide +kernel
  have hf_9 := S.2.2.2.2 (.fieldLink RX0 9 "CrashVault$ByteRow" "bytes" "[I") (by decide +kernel)
  refine lv_lconst (v := 0) S.1 S.2.1 dX0_numberAt_0 (by decide) ?_
  refine lv_lstore_n (lv' := [(3, .long 0), (0, .ref (E.2.1 8)), (1, .int (nI b)), (2, .int (nI n))]) S.1 S.2.1 dX0_numberAt_1 rfl hl (by decide) rfl (fun ls hl => ?_)
  refine lv_iconst (v := 0) S.1 S.2.1 dX0_numberAt_2 (by decide) ?_
  refine lv_istore (lv' := [(5, .int 0), (3, .long 0), (0, .ref (E.2.1 8)), (1, .int (nI b)), (2, .int (nI n))]) S.1 S.2.1 dX0_numberAt_3 hl (by decide) rfl (fun ls hl => ?_)
  refine cv_loop (α := Unit) (nL := 6) n (fun i a τ => τ = σ) (fun i a => [(5, .int (nI i)), (3, .long (pu_num (σ.1 9) b i)), (0, .ref (E.2.1 8)), (1, .int (nI b)), (2, .int (nI n))]) ?_ ?_ 0 () σ _ _ _ (by omega) (rfl) h hl
  · intro i a τ H locs ls hi hI h hl ih
    have hl : lv_has ls 6 [(5, .int (nI i)), (3, .long (pu_num (σ.1 9) b i)), (0, .ref (E.2.1 8)), (1, .int (nI b)), (2, .int (nI n))] := hl
    refine lv_iload S.1 S.2.1 dX0_numberAt_5 (lv_at hl 0 rfl) ?_
    refine lv_iload_n S.1 S.2.1 dX0_numberAt_7 rfl (lv_at hl 4 rfl) ?_
    refine lv_icmp_ge (tgt := 36) S.1 S.2.1 dX0_numberAt_8 (by decide) (fun c1 => ?_) (fun c1 => ?_)
    · exact absurd c1 (nI_ge hi (by omega))
    · refine lv_lload_n S.1 S.2.1 dX0_numberAt_11 rfl (lv_at hl 1 rfl) ?_
      refine lv_aload_n S.1 S.2.1 dX0_numberAt_12 rfl (lv_at hl 2 rfl) ?_
      refine cv_gf (ci := 0) (C := RX0) (T := TX0) (N := 1) (v := .ref (E.2.1 9)) S K h 8 rfl hinX0 rfl rfl 0 (by decide) hf_9 rfl rfl dX0_numberAt_13 ?_
      refine lv_iload_n S.1 S.2.1 dX0_numberAt_16 rfl (lv_at hl 3 rfl) ?_
      refine lv_iload S.1 S.2.1 dX0_numberAt_17 (lv_at hl 0 rfl) ?_
      refine lv_iadd S.1 S.2.1 dX0_numberAt_19 ?_
      refine cv_iald S K h 9 rfl (n := 300) rfl (b + i) (nI_add b i) (by omega) dX0_numberAt_20 ?_
      refine lv_i2l (v := ((τ.1 9 (b + i)) : Int32).toInt64) S.1 S.2.1 dX0_numberAt_21 rfl ?_
      refine lv_bipush (v := 8) S.1 S.2.1 dX0_numberAt_22 (by decide) ?_
      refine lv_iload S.1 S.2.1 dX0_numberAt_24 (lv_at hl 0 rfl) ?_
      refine lv_imul S.1 S.2.1 dX0_numberAt_26 ?_
      refine lv_lshl (v := ((((τ.1 9 (b + i)) : Int32).toInt64)) <<< (((8 * ((nI i))) : Int32).toInt64 &&& 63)) S.1 S.2.1 dX0_numberAt_27 rfl ?_
      refine lv_lor S.1 S.2.1 dX0_numberAt_28 ?_
      refine lv_topl (fun x ex => ?_)
      refine lv_lstore_n (lv' := [(3, .long x), (5, .int (nI i)), (0, .ref (E.2.1 8)), (1, .int (nI b)), (2, .int (nI n))]) S.1 S.2.1 dX0_numberAt_29 rfl hl (by decide) rfl (fun ls hl => ?_)
      obtain ⟨z, ez⟩ : ∃ y : Int32, y = ((nI i)) + 1 := ⟨_, rfl⟩
      refine lv_iinc (v := z) (lv' := [(5, .int z), (3, .long x), (0, .ref (E.2.1 8)), (1, .int (nI b)), (2, .int (nI n))]) S.1 S.2.1 dX0_numberAt_30 hl (k := 1) rfl (by rw [ez]; rfl) (by decide) rfl (fun ls hl => ?_)
      refine lv_goto (tgt := 5) S.1 S.2.1 dX0_numberAt_33 (by decide) ?_
      have ex2 : x = pu_num (σ.1 9) b (i + 1) := by rw [ex, hI]; rfl
      rw [ez, nI_1, ex2] at hl
      exact ih () τ H locs ls hI h (lv_sub hl [0, 1, 2, 3, 4] rfl)
  · intro a τ H locs ls hI h hl
    have hl : lv_has ls 6 [(5, .int (nI n)), (3, .long (pu_num (σ.1 9) b n)), (0, .ref (E.2.1 8)), (1, .int (nI b)), (2, .int (nI n))] := hl
    refine lv_iload S.1 S.2.1 dX0_numberAt_5 (lv_at hl 0 rfl) ?_
    refine lv_iload_n S.1 S.2.1 dX0_numberAt_7 rfl (lv_at hl 4 rfl) ?_
    refine lv_icmp_ge (tgt := 36) S.1 S.2.1 dX0_numberAt_8 (by decide) (fun c1 => ?_) (fun c1 => ?_)
    · refine lv_lload_n S.1 S.2.1 dX0_numberAt_36 rfl (lv_at hl 1 rfl) ?_
      exact cv_lret S hr hlk hsz h ⟨rfl, hI⟩ dX0_numberAt_37
    · exact absurd (Int32.le_refl _) c1

set_option maxHeartbeats 4000000 in
set_option maxRecDepth 100000 in
/-- the block is stirred at four places -/
theorem c_stir (l : Launch) (E : cv_E) (σ : cv_S) (i1 i2 i3 i4 : Nat) (h1 : i1 < 16) (h2 : i2 < 16) (h3 : i3 < 16) (h4 : i4 < 16) : cv_Mv l E yX1_stir wsX1_stir (cv_R 1) [.ref (E.2.1 3), .int (nI i1), .int (nI i2), .int (nI i3), .int (nI i4)] σ (fun τ => τ = cv_uI σ 7 (pu_stir (σ.1 7) i1 i2 i3 i4)) := by
  intro sz
  refine cv_in (ws := wsX1_stir) (cc := cX1_stir) (maxL := 9) (ret := none) (own := RX1) rfl (by decide) rfl (Nat.le_of_ble_eq_true rfl) ?_
  intro p e s m below meth c S K hr hlk hsz h ls hl
  have hl : lv_has ls 9 [(0, .ref (E.2.1 3)), (1, .int (nI i1)), (2, .int (nI i2)), (3, .int (nI i3)), (4, .int (nI i4))] := hl
  have hinX1 : ∀ w ∈ u_ws RX1 TX1 4, w ∈ wsX1_stir := by decide +kernel
  have hf_19 := S.2.2.2.2 (.fieldLink RX1 19 "CrashVault$Cipher" "block" "[I") (by decide +kernel)
  refine lv_aload_n S.1 S.2.1 dX1_stir_0 rfl (lv_at hl 0 rfl) ?_
  refine cv_gf (ci := 1) (C := RX1) (T := TX1) (N := 4) (v := .ref (E.2.1 7)) S K h 3 rfl hinX1 rfl rfl 3 (by decide) hf_19 rfl rfl dX1_stir_1 ?_
  refine lv_iload_n S.1 S.2.1 dX1_stir_4 rfl (lv_at hl 1 rfl) ?_
  refine cv_iald S K h 7 rfl (n := 16) rfl i1 rfl h1 dX1_stir_5 ?_
  refine lv_topi (fun a0 ea0 => ?_)
  refine lv_istore (lv' := [(5, .int a0), (0, .ref (E.2.1 3)), (1, .int (nI i1)), (2, .int (nI i2)), (3, .int (nI i3)), (4, .int (nI i4))]) S.1 S.2.1 dX1_stir_6 hl (by decide) rfl (fun ls hl => ?_)
  refine lv_aload_n S.1 S.2.1 dX1_stir_8 rfl (lv_at hl 1 rfl) ?_
  refine cv_gf (ci := 1) (C := RX1) (T := TX1) (N := 4) (v := .ref (E.2.1 7)) S K h 3 rfl hinX1 rfl rfl 3 (by decide) hf_19 rfl rfl dX1_stir_9 ?_
  refine lv_iload_n S.1 S.2.1 dX1_stir_12 rfl (lv_at hl 3 rfl) ?_
  refine cv_iald S K h 7 rfl (n := 16) rfl i2 rfl h2 dX1_stir_13 ?_
  refine lv_topi (fun b0 eb0 => ?_)
  refine lv_istore (lv' := [(6, .int b0), (5, .int a0), (0, .ref (E.2.1 3)), (1, .int (nI i1)), (2, .int (nI i2)), (3, .int (nI i3)), (4, .int (nI i4))]) S.1 S.2.1 dX1_stir_14 hl (by decide) rfl (fun ls hl => ?_)
  refine lv_aload_n S.1 S.2.1 dX1_stir_16 rfl (lv_at hl 2 rfl) ?_
  refine cv_gf (ci := 1) (C := RX1) (T := TX1) (N := 4) (v := .ref (E.2.1 7)) S K h 3 rfl hinX1 rfl rfl 3 (by decide) hf_19 rfl rfl dX1_stir_17 ?_
  refine lv_iload_n S.1 S.2.1 dX1_stir_20 rfl (lv_at hl 5 rfl) ?_
  refine cv_iald S K h 7 rfl (n := 16) rfl i3 rfl h3 dX1_stir_21 ?_
  refine lv_topi (fun c0 ec0 => ?_)
  refine lv_istore (lv' := [(7, .int c0), (6, .int b0), (5, .int a0), (0, .ref (E.2.1 3)), (1, .int (nI i1)), (2, .int (nI i2)), (3, .int (nI i3)), (4, .int (nI i4))]) S.1 S.2.1 dX1_stir_22 hl (by decide) rfl (fun ls hl => ?_)
  refine lv_aload_n S.1 S.2.1 dX1_stir_24 rfl (lv_at hl 3 rfl) ?_
  refine cv_gf (ci := 1) (C := RX1) (T := TX1) (N := 4) (v := .ref (E.2.1 7)) S K h 3 rfl hinX1 rfl rfl 3 (by decide) hf_19 rfl rfl dX1_stir_25 ?_
  refine lv_iload S.1 S.2.1 dX1_stir_28 (lv_at hl 7 rfl) ?_
  refine cv_iald S K h 7 rfl (n := 16) rfl i4 rfl h4 dX1_stir_30 ?_
  refine lv_topi (fun d0 ed0 => ?_)
  refine lv_istore (lv' := [(8, .int d0), (7, .int c0), (6, .int b0), (5, .int a0), (0, .ref (E.2.1 3)), (1, .int (nI i1)), (2, .int (nI i2)), (3, .int (nI i3)), (4, .int (nI i4))]) S.1 S.2.1 dX1_stir_31 hl (by decide) rfl (fun ls hl => ?_)
  refine lv_iload S.1 S.2.1 dX1_stir_33 (lv_at hl 3 rfl) ?_
  refine lv_iload S.1 S.2.1 dX1_stir_35 (lv_at hl 2 rfl) ?_
  refine lv_iadd S.1 S.2.1 dX1_stir_37 ?_
  refine lv_topi (fun a1 ea1 => ?_)
  refine lv_istore (lv' := [(5, .int a1), (8, .int d0), (7, .int c0), (6, .int b0), (0, .ref (E.2.1 3)), (1, .int (nI i1)), (2, .int (nI i2)), (3, .int (nI i3)), (4, .int (nI i4))]) S.1 S.2.1 dX1_stir_38 hl (by decide) rfl (fun ls hl => ?_)
  refine lv_iload S.1 S.2.1 dX1_stir_40 (lv_at hl 1 rfl) ?_
  refine lv_iload S.1 S.2.1 dX1_stir_42 (lv_at hl 0 rfl) ?_
  refine lv_ixor S.1 S.2.1 dX1_stir_44 ?_
  refine lv_topi (fun dx edx => ?_)
  refine lv_istore (lv' := [(8, .int dx), (5, .int a1), (7, .int c0), (6, .int b0), (0, .ref (E.2.1 3)), (1, .int (nI i1)), (2, .int (nI i2)), (3, .int (nI i3)), (4, .int (nI i4))]) S.1 S.2.1 dX1_stir_45 hl (by decide) rfl (fun ls hl => ?_)
  refine lv_iload S.1 S.2.1 dX1_stir_47 (lv_at hl 0 rfl) ?_
  refine lv_bipush (v := 16) S.1 S.2.1 dX1_stir_49 (by decide) ?_
  refine lv_ishl S.1 S.2.1 dX1_stir_51 ?_
  refine lv_iload S.1 S.2.1 dX1_stir_52 (lv_at hl 0 rfl) ?_
  refine lv_bipush (v := 16) S.1 S.2.1 dX1_stir_54 (by decide) ?_
  refine lv_iushr (v := (dx.toUInt32 >>> ((16 : Int32).toUInt32 &&& Int32.toUInt32 31)).toInt32) S.1 S.2.1 dX1_stir_56 rfl ?_
  refine lv_ior S.1 S.2.1 dX1_stir_57 ?_
  refine lv_topi (fun d1 ed1 => ?_)
  refine lv_istore (lv' := [(8, .int d1), (5, .int a1), (7, .int c0), (6, .int b0), (0, .ref (E.2.1 3)), (1, .int (nI i1)), (2, .int (nI i2)), (3, .int (nI i3)), (4, .int (nI i4))]) S.1 S.2.1 dX1_stir_58 hl (by decide) rfl (fun ls hl => ?_)
  refine lv_iload S.1 S.2.1 dX1_stir_60 (lv_at hl 2 rfl) ?_
  refine lv_iload S.1 S.2.1 dX1_stir_62 (lv_at hl 0 rfl) ?_
  refine lv_iadd S.1 S.2.1 dX1_stir_64 ?_
  refine lv_topi (fun c1 ec1 => ?_)
  refine lv_istore (lv' := [(7, .int c1), (8, .int d1), (5, .int a1), (6, .int b0), (0, .ref (E.2.1 3)), (1, .int (nI i1)), (2, .int (nI i2)), (3, .int (nI i3)), (4, .int (nI i4))]) S.1 S.2.1 dX1_stir_65 hl (by decide) rfl (fun ls hl => ?_)
  refine lv_iload S.1 S.2.1 dX1_stir_67 (lv_at hl 3 rfl) ?_
  refine lv_iload S.1 S.2.1 dX1_stir_69 (lv_at hl 0 rfl) ?_
  refine lv_ixor S.1 S.2.1 dX1_stir_71 ?_
  refine lv_topi (fun bx ebx => ?_)
  refine lv_istore (lv' := [(6, .int bx), (7, .int c1), (8, .int d1), (5, .int a1), (0, .ref (E.2.1 3)), (1, .int (nI i1)), (2, .int (nI i2)), (3, .int (nI i3)), (4, .int (nI i4))]) S.1 S.2.1 dX1_stir_72 hl (by decide) rfl (fun ls hl => ?_)
  refine lv_iload S.1 S.2.1 dX1_stir_74 (lv_at hl 0 rfl) ?_
  refine lv_bipush (v := 12) S.1 S.2.1 dX1_stir_76 (by decide) ?_
  refine lv_ishl S.1 S.2.1 dX1_stir_78 ?_
  refine lv_iload S.1 S.2.1 dX1_stir_79 (lv_at hl 0 rfl) ?_
  refine lv_bipush (v := 20) S.1 S.2.1 dX1_stir_81 (by decide) ?_
  refine lv_iushr (v := (bx.toUInt32 >>> ((20 : Int32).toUInt32 &&& Int32.toUInt32 31)).toInt32) S.1 S.2.1 dX1_stir_83 rfl ?_
  refine lv_ior S.1 S.2.1 dX1_stir_84 ?_
  refine lv_topi (fun b1 eb1 => ?_)
  refine lv_istore (lv' := [(6, .int b1), (7, .int c1), (8, .int d1), (5, .int a1), (0, .ref (E.2.1 3)), (1, .int (nI i1)), (2, .int (nI i2)), (3, .int (nI i3)), (4, .int (nI i4))]) S.1 S.2.1 dX1_stir_85 hl (by decide) rfl (fun ls hl => ?_)
  refine lv_iload S.1 S.2.1 dX1_stir_87 (lv_at hl 3 rfl) ?_
  refine lv_iload S.1 S.2.1 dX1_stir_89 (lv_at hl 0 rfl) ?_
  refine lv_iadd S.1 S.2.1 dX1_stir_91 ?_
  refine lv_topi (fun a2 ea2 => ?_)
  refine lv_istore (lv' := [(5, .int a2), (6, .int b1), (7, .int c1), (8, .int d1), (0, .ref (E.2.1 3)), (1, .int (nI i1)), (2, .int (nI i2)), (3, .int (nI i3)), (4, .int (nI i4))]) S.1 S.2.1 dX1_stir_92 hl (by decide) rfl (fun ls hl => ?_)
  refine lv_iload S.1 S.2.1 dX1_stir_94 (lv_at hl 3 rfl) ?_
  refine lv_iload S.1 S.2.1 dX1_stir_96 (lv_at hl 0 rfl) ?_
  refine lv_ixor S.1 S.2.1 dX1_stir_98 ?_
  refine lv_topi (fun dy edy => ?_)
  refine lv_istore (lv' := [(8, .int dy), (5, .int a2), (6, .int b1), (7, .int c1), (0, .ref (E.2.1 3)), (1, .int (nI i1)), (2, .int (nI i2)), (3, .int (nI i3)), (4, .int (nI i4))]) S.1 S.2.1 dX1_stir_99 hl (by decide) rfl (fun ls hl => ?_)
  refine lv_iload S.1 S.2.1 dX1_stir_101 (lv_at hl 0 rfl) ?_
  refine lv_bipush (v := 8) S.1 S.2.1 dX1_stir_103 (by decide) ?_
  refine lv_ishl S.1 S.2.1 dX1_stir_105 ?_
  refine lv_iload S.1 S.2.1 dX1_stir_106 (lv_at hl 0 rfl) ?_
  refine lv_bipush (v := 24) S.1 S.2.1 dX1_stir_108 (by decide) ?_
  refine lv_iushr (v := (dy.toUInt32 >>> ((24 : Int32).toUInt32 &&& Int32.toUInt32 31)).toInt32) S.1 S.2.1 dX1_stir_110 rfl ?_
  refine lv_ior S.1 S.2.1 dX1_stir_111 ?_
  refine lv_topi (fun d2 ed2 => ?_)
  refine lv_istore (lv' := [(8, .int d2), (5, .int a2), (6, .int b1), (7, .int c1), (0, .ref (E.2.1 3)), (1, .int (nI i1)), (2, .int (nI i2)), (3, .int (nI i3)), (4, .int (nI i4))]) S.1 S.2.1 dX1_stir_112 hl (by decide) rfl (fun ls hl => ?_)
  refine lv_iload S.1 S.2.1 dX1_stir_114 (lv_at hl 3 rfl) ?_
  refine lv_iload S.1 S.2.1 dX1_stir_116 (lv_at hl 0 rfl) ?_
  refine lv_iadd S.1 S.2.1 dX1_stir_118 ?_
  refine lv_topi (fun c2 ec2 => ?_)
  refine lv_istore (lv' := [(7, .int c2), (8, .int d2), (5, .int a2), (6, .int b1), (0, .ref (E.2.1 3)), (1, .int (nI i1)), (2, .int (nI i2)), (3, .int (nI i3)), (4, .int (nI i4))]) S.1 S.2.1 dX1_stir_119 hl (by decide) rfl (fun ls hl => ?_)
  refine lv_iload S.1 S.2.1 dX1_stir_121 (lv_at hl 3 rfl) ?_
  refine lv_iload S.1 S.2.1 dX1_stir_123 (lv_at hl 0 rfl) ?_
  refine lv_ixor S.1 S.2.1 dX1_stir_125 ?_
  refine lv_topi (fun by_ eby_ => ?_)
  refine lv_istore (lv' := [(6, .int by_), (7, .int c2), (8, .int d2), (5, .int a2), (0, .ref (E.2.1 3)), (1, .int (nI i1)), (2, .int (nI i2)), (3, .int (nI i3)), (4, .int (nI i4))]) S.1 S.2.1 dX1_stir_126 hl (by decide) rfl (fun ls hl => ?_)
  refine lv_iload S.1 S.2.1 dX1_stir_128 (lv_at hl 0 rfl) ?_
  refine lv_bipush (v := 7) S.1 S.2.1 dX1_stir_130 (by decide) ?_
  refine lv_ishl S.1 S.2.1 dX1_stir_132 ?_
  refine lv_iload S.1 S.2.1 dX1_stir_133 (lv_at hl 0 rfl) ?_
  refine lv_bipush (v := 25) S.1 S.2.1 dX1_stir_135 (by decide) ?_
  refine lv_iushr (v := (by_.toUInt32 >>> ((25 : Int32).toUInt32 &&& Int32.toUInt32 31)).toInt32) S.1 S.2.1 dX1_stir_137 rfl ?_
  refine lv_ior S.1 S.2.1 dX1_stir_138 ?_
  refine lv_topi (fun b2 eb2 => ?_)
  refine lv_istore (lv' := [(6, .int b2), (7, .int c2), (8, .int d2), (5, .int a2), (0, .ref (E.2.1 3)), (1, .int (nI i1)), (2, .int (nI i2)), (3, .int (nI i3)), (4, .int (nI i4))]) S.1 S.2.1 dX1_stir_139 hl (by decide) rfl (fun ls hl => ?_)
  refine lv_aload_n S.1 S.2.1 dX1_stir_141 rfl (lv_at hl 4 rfl) ?_
  refine cv_gf (ci := 1) (C := RX1) (T := TX1) (N := 4) (v := .ref (E.2.1 7)) S K h 3 rfl hinX1 rfl rfl 3 (by decide) hf_19 rfl rfl dX1_stir_142 ?_
  refine lv_iload_n S.1 S.2.1 dX1_stir_145 rfl (lv_at hl 5 rfl) ?_
  refine lv_iload S.1 S.2.1 dX1_stir_146 (lv_at hl 3 rfl) ?_
  refine cv_iast (x := a2) S K h 7 rfl (n := 16) rfl i1 rfl h1 dX1_stir_148 (fun σ2 H locs eσ2 h => ?_)
  refine lv_aload_n S.1 S.2.1 dX1_stir_149 rfl (lv_at hl 4 rfl) ?_
  refine cv_gf (ci := 1) (C := RX1) (T := TX1) (N := 4) (v := .ref (E.2.1 7)) S K h 3 rfl hinX1 rfl rfl 3 (by decide) hf_19 rfl rfl dX1_stir_150 ?_
  refine lv_iload_n S.1 S.2.1 dX1_stir_153 rfl (lv_at hl 6 rfl) ?_
  refine lv_iload S.1 S.2.1 dX1_stir_154 (lv_at hl 0 rfl) ?_
  refine cv_iast (x := b2) S K h 7 rfl (n := 16) rfl i2 rfl h2 dX1_stir_156 (fun σ3 H locs eσ3 h => ?_)
  refine lv_aload_n S.1 S.2.1 dX1_stir_157 rfl (lv_at hl 4 rfl) ?_
  refine cv_gf (ci := 1) (C := RX1) (T := TX1) (N := 4) (v := .ref (E.2.1 7)) S K h 3 rfl hinX1 rfl rfl 3 (by decide) hf_19 rfl rfl dX1_stir_158 ?_
  refine lv_iload_n S.1 S.2.1 dX1_stir_161 rfl (lv_at hl 7 rfl) ?_
  refine lv_iload S.1 S.2.1 dX1_stir_162 (lv_at hl 1 rfl) ?_
  refine cv_iast (x := c2) S K h 7 rfl (n := 16) rfl i3 rfl h3 dX1_stir_164 (fun σ4 H locs eσ4 h => ?_)
  refine lv_aload_n S.1 S.2.1 dX1_stir_165 rfl (lv_at hl 4 rfl) ?_
  refine cv_gf (ci := 1) (C := RX1) (T := TX1) (N := 4) (v := .ref (E.2.1 7)) S K h 3 rfl hinX1 rfl rfl 3 (by decide) hf_19 rfl rfl dX1_stir_166 ?_
  refine lv_iload S.1 S.2.1 dX1_stir_169 (lv_at hl 8 rfl) ?_
  refine lv_iload S.1 S.2.1 dX1_stir_171 (lv_at hl 2 rfl) ?_
  refine cv_iast (x := d2) S K h 7 rfl (n := 16) rfl i4 rfl h4 dX1_stir_173 (fun σ5 H locs eσ5 h => ?_)
  refine cv_vret S hr hlk hsz h ?_ dX1_stir_174
  have ha1 : a1 = pu_a1 (σ.1 7 i1) (σ.1 7 i2) := by rw [ea1, ea0, eb0]; rfl
  have hd1 : d1 = pu_d1 (σ.1 7 i1) (σ.1 7 i2) (σ.1 7 i4) := by rw [ed1, edx, ha1, ed0]; rfl
  have hc1 : c1 = pu_c1 (σ.1 7 i1) (σ.1 7 i2) (σ.1 7 i3) (σ.1 7 i4) := by rw [ec1, hd1, ec0]; rfl
  have hb1 : b1 = pu_b1 (σ.1 7 i1) (σ.1 7 i2) (σ.1 7 i3) (σ.1 7 i4) := by rw [eb1, ebx, hc1, eb0]; rfl
  have ha2 : a2 = pu_a2 (σ.1 7 i1) (σ.1 7 i2) (σ.1 7 i3) (σ.1 7 i4) := by rw [ea2, hb1, ha1]; rfl
  have hd2 : d2 = pu_d2 (σ.1 7 i1) (σ.1 7 i2) (σ.1 7 i3) (σ.1 7 i4) := by rw [ed2, edy, ha2, hd1]; rfl
  have hc2 : c2 = pu_c2 (σ.1 7 i1) (σ.1 7 i2) (σ.1 7 i3) (σ.1 7 i4) := by rw [ec2, hd2, hc1]; rfl
  have hb2 : b2 = pu_b2 (σ.1 7 i1) (σ.1 7 i2) (σ.1 7 i3) (σ.1 7 i4) := by rw [eb2, eby_, hc2, hb1]; rfl
  rw [eσ5, eσ4, eσ3, eσ2, ha2, hb2, hc2, hd2]
  simp only [cv_I1, if_true, cv_uI_uI]
  rfl
