/-! 27: FileForm.readFile, Vault.copyFrom -/
theorem ff_F.rf {v : Nat} {σ : cv_S} : ff_F v σ σ := ⟨fun _ _ _ => rfl, fun _ _ _ => rfl, fun _ _ _ _ => rfl, fun _ _ _ => rfl⟩
theorem ff_F.trans {v : Nat} {σ σ' σ'' : cv_S} (h : ff_F v σ σ') (h' : ff_F v σ' σ'') : ff_F v σ σ'' := ⟨fun k a b => (h'.1 k a b).trans (h.1 k a b), fun k a b => (h'.2.1 k a b).trans (h.2.1 k a b), fun k i a b => (h'.2.2.1 k i a b).trans (h.2.2.1 k i a b), fun k i a => (h'.2.2.2 k i a).trans (h.2.2.2 k i a)⟩
theorem ff_fr {v : Nat} {S : List Nat} {σ σ' : cv_S} (h : cv_fr S σ σ') (hS : ∀ k ∈ S, k ∈ [4, 5, 6, 7, 9]) : ff_F v σ σ' := ⟨fun k a _ => h.1 k (fun q => a (hS k q)), fun k _ _ => by rw [h.2], fun k i _ _ => by rw [h.2], fun k i _ => by rw [h.2]⟩
theorem ff_el {v : Nat} {σ σ' : cv_S} (h : el_F v σ σ') : ff_F v σ σ' := ⟨fun k _ b => h.1 k b, h.2.1, fun k i a _ => h.2.2.1 k i a, fun k i _ => by rw [h.2.2.2]⟩
theorem ff_uF {v : Nat} {σ : cv_S} {i : Nat} {x : Int32} : ff_F v σ (cv_uF σ (v + 10) i x) := ⟨fun _ _ _ => rfl, fun _ _ _ => rfl, fun k j _ b => by rw [cv_F3, if_neg b], fun _ _ _ => rfl⟩
theorem ff_uG {v : Nat} {σ : cv_S} {i : Nat} {x : Int64} : ff_F v σ (cv_uG σ (v + 10) i x) := ⟨fun _ _ _ => rfl, fun _ _ _ => rfl, fun _ _ _ _ => rfl, fun k j a => by rw [cv_G4, if_neg a]⟩
theorem nv2_lt {bv : Nat → Nat} {a : Nat} (h0 : bv a < 256) (h1 : bv (a + 1) < 256) : nv bv a 2 < 65536 := nv_lt (m := 0) 2 (fun j hj => by rcases (show j = 0 ∨ j = 1 by omega) with rfl | rfl <;> assumption)

set_option maxHeartbeats 4000000 in
set_option maxRecDepth 100000 in
/-- the slot whose bytes are bv is looked at; the vault v holds it then -/
theorem c_readFile (l : Launch) (E : cv_E) (σ : cv_S) (v : Nat) (hv : v < 3) (q : Nat) (hq : q ≤ 300) (bv : Nat → Nat) (hbv : ∀ j, j < 300 → σ.1 1 (q + j) = nI (bv j) ∧ bv j < 256) (pw : Int64) : cv_Mi l E yX3_readFile wsX3_readFile (cv_R 5) [.ref (E.2.1 2), .ref (E.2.1 1), .int (nI q), .long pw, .ref (E.2.1 (v + 10))] σ (fun r τ => ff_F v σ τ ∧ ((r = 1 ∧ gd bv pw ∧ τ.2.2.2 (v + 10) 1 = pw ∧ τ.2.2.1 (v + 10) 2 = nI (nv bv 6 4) ∧ τ.2.2.1 (v + 10) 3 = nI (bv 10) ∧ τ.2.2.1 (v + 10) 4 = nI (nv bv 2 4) ∧ el_R τ v (sp bv pw 21) (pN (sp bv pw)) (pO (sp bv pw)) (pV (sp bv pw))) ∨ (r = 0 ∧ ¬ gd bv pw))) := by
  intro sz
  refine cv_in (ws := wsX3_readFile) (cc := cX3_readFile) (maxL := 8) (ret := (some .boolean)) (own := RX3) rfl (by decide) rfl (Nat.le_of_ble_eq_true rfl) ?_
  intro p e s m below meth c S K hr hlk hsz h ls hl
  have hl : lv_has ls 8 [(0, .ref (E.2.1 2)), (1, .ref (E.2.1 1)), (2, .int (nI q)), (3, .long pw), (5, .ref (E.2.1 (v + 10)))] := hl
  have hinX0 : ∀ w ∈ u_ws RX0 TX0 1, w ∈ wsX3_readFile := by decide +kernel
  have hinX3 : ∀ w ∈ u_ws RX3 TX3 2, w ∈ wsX3_readFile := by decide +kernel
  have hinX4 : ∀ w ∈ u_ws RX4 TX4 5, w ∈ wsX3_readFile := by decide +kernel
  have hf_14 := S.2.2.2.2 (.fieldLink RX3 14 "CrashVault$FileForm" "cipher" "LCrashVault$Cipher;") (by decide +kernel)
  have hf_21 := S.2.2.2.2 (.fieldLink RX3 21 "CrashVault$FileForm" "row" "LCrashVault$ByteRow;") (by decide +kernel)
  refine lv_aload_n S.1 S.2.1 dX3_readFile_0 rfl (lv_at hl 1 rfl) ?_
  refine lv_iload_n S.1 S.2.1 dX3_readFile_1 rfl (lv_at hl 2 rfl) ?_
  refine lv_aload_n S.1 S.2.1 dX3_readFile_2 rfl (lv_at hl 0 rfl) ?_
  refine cv_gf (ci := 3) (C := RX3) (T := TX3) (N := 2) (v := .ref (E.2.1 8)) S K h 2 rfl hinX3 rfl rfl 1 (by decide) hf_21 rfl rfl dX3_readFile_3 ?_
  refine cv_gfN (ci := 0) (C := RX0) (T := TX0) (N := 1) (v := .ref (E.2.1 9)) S K h 8 rfl hinX0 rfl rfl 0 (by decide) (cv_nest_14 K) rfl rfl dX3_readFile_6 ?_
  refine lv_iconst (v := 0) S.1 S.2.1 dX3_readFile_9 (by decide) ?_
  refine lv_sipush (v := 300) S.1 S.2.1 dX3_readFile_10 (by decide) ?_
  refine cv_copy S K h hl.1 (S.2.2.2.2 (.methodLink RX3 75 arraycopyName) (by decide +kernel)) (S.2.2.2.2 (.native arraycopyName) (by decide +kernel)) (S.2.2.2.2 (.static arraycopyName) (by decide +kernel)) (S.2.2.2.2 (.initialized "java/lang/System") (by decide +kernel)) 1 9 rfl rfl (n0 := 600) rfl (n1 := 300) rfl q 0 300 rfl rfl rfl (by omega) (by decide) (Nat.le_of_ble_eq_true rfl) (Nat.le_of_ble_eq_true rfl) dX3_readFile_13 (fun σ1 H locs eσ1 h => ?_)
  have b1 : by_R (σ1.1 9) bv 300 := by
    intro j hj
    rw [eσ1, cv_I1, if_pos rfl, pk_cpy_in (Nat.zero_le _) (by omega), Nat.sub_zero]
    exact hbv j hj
  have f1 : ff_F v σ σ1 := by rw [eσ1]; exact ff_fr (cv_fr.up (S := [9]) (by decide)) (by decide)
  have bl := fun j hj => (b1 j hj).2
  have h11 := nv2_lt (bl 11 (by decide)) (bl 12 (by decide))
  refine lv_aload_n S.1 S.2.1 dX3_readFile_16 rfl (lv_at hl 0 rfl) ?_
  refine cv_gf (ci := 3) (C := RX3) (T := TX3) (N := 2) (v := .ref (E.2.1 8)) S K h 2 rfl hinX3 rfl rfl 1 (by decide) hf_21 rfl rfl dX3_readFile_17 ?_
  refine cv_gfN (ci := 0) (C := RX0) (T := TX0) (N := 1) (v := .ref (E.2.1 9)) S K h 8 rfl hinX0 rfl rfl 0 (by decide) (cv_nest_14 K) rfl rfl dX3_readFile_20 ?_
  refine lv_bipush (v := 10) S.1 S.2.1 dX3_readFile_23 (by decide) ?_
  refine cv_iald S K h 9 rfl (n := 300) rfl 10 rfl (by decide) dX3_readFile_25 ?_
  refine cv_rei (show (σ1.1 9 10) = nI (bv 10) from (b1 10 (by decide)).1) ?_
  refine lv_istore (lv' := [(6, .int (nI (bv 10))), (0, .ref (E.2.1 2)), (1, .ref (E.2.1 1)), (2, .int (nI q)), (3, .long pw), (5, .ref (E.2.1 (v + 10)))]) S.1 S.2.1 dX3_readFile_26 hl (by decide) rfl (fun ls hl => ?_)
  refine lv_bipush (v := 21) S.1 S.2.1 dX3_readFile_28 (by decide) ?_
  refine lv_aload_n S.1 S.2.1 dX3_readFile_30 rfl (lv_at hl 1 rfl) ?_
  refine cv_gf (ci := 3) (C := RX3) (T := TX3) (N := 2) (v := .ref (E.2.1 8)) S K h 2 rfl hinX3 rfl rfl 1 (by decide) hf_21 rfl rfl dX3_readFile_31 ?_
  refine lv_bipush (v := 11) S.1 S.2.1 dX3_readFile_34 (by decide) ?_
  refine lv_iconst (v := 2) S.1 S.2.1 dX3_readFile_36 (by decide) ?_
  refine cv_calll (ci := 0) (C := RX0) (T := TX0) (N := 1) S K h hl.1 rfl rfl rfl (c_numberAt l E σ1 11 2 (by decide)) (cwV 2 S.2.2.2.2 gX3_readFile_X0_numberAt rfl rfl rfl (by decide +kernel) ⟨Nat.le_of_ble_eq_true rfl, Nat.le_of_ble_eq_true rfl⟩) rfl rfl (Nat.le_of_ble_eq_true rfl) ⟨Nat.zero_le _, Nat.zero_le _⟩ dX3_readFile_37 (fun n1 σ2 H locs ⟨hn1, hs9⟩ h => ?_)
  rw [hs9] at h
  rw [pu_num_nv b1 2 (by decide) (by decide)] at hn1
  subst hn1
  refine lv_l2i (v := ((lN (nv bv 11 2)) : Int64).toInt32) S.1 S.2.1 dX3_readFile_40 rfl ?_
  refine cv_rei (show (((lN (nv bv 11 2)) : Int64).toInt32) = nI (nv bv 11 2) from lN_i _) ?_
  refine lv_iadd S.1 S.2.1 dX3_readFile_41 ?_
  refine cv_rei (show (21 + ((nI (nv bv 11 2)))) = nI (sn bv) from nI_add 21 _) ?_
  refine lv_istore (lv' := [(7, .int (nI (sn bv))), (6, .int (nI (bv 10))), (0, .ref (E.2.1 2)), (1, .ref (E.2.1 1)), (2, .int (nI q)), (3, .long pw), (5, .ref (E.2.1 (v + 10)))]) S.1 S.2.1 dX3_readFile_42 hl (by decide) rfl (fun ls hl => ?_)
  have key96 : ∀ (H : Heap) (locs : List Loc) (ls : Array Slot), ¬ gh bv → cv_H E σ1 s H locs → lv_has ls 8 [(7, .int (nI (sn bv))), (6, .int (nI (bv 10))), (0, .ref (E.2.1 2)), (1, .ref (E.2.1 1)), (2, .int (nI q)), (3, .long pw), (5, .ref (E.2.1 (v + 10)))] → W p l e (cv_R 5) s m ([.ref (E.2.1 2), .ref (E.2.1 1), .int (nI q), .long pw, .ref (E.2.1 (v + 10))] : List Value).toArray below meth c H locs 0 0 (MQ below (va_Qi (fun r τ => ff_F v σ τ ∧ ((r = 1 ∧ gd bv pw ∧ τ.2.2.2 (v + 10) 1 = pw ∧ τ.2.2.1 (v + 10) 2 = nI (nv bv 6 4) ∧ τ.2.2.1 (v + 10) 3 = nI (bv 10) ∧ τ.2.2.1 (v + 10) 4 = nI (nv bv 2 4) ∧ el_R τ v (sp bv pw 21) (pN (sp bv pw)) (pO (sp bv pw)) (pV (sp bv pw))) ∨ (r = 0 ∧ ¬ gd bv pw))) (cv_B E) (cv_A E sz)) ([.ref (E.2.1 2), .ref (E.2.1 1), .int (nI q), .long pw, .ref (E.2.1 (v + 10))] : List Value).toArray s 0 0 (cv_A E sz)) (F0 m 96 ls []) := by
    intro H locs ls hng h hl
    refine lv_iconst (v := 0) S.1 S.2.1 dX3_readFile_96 (by decide) ?_
    exact cv_zret S hr (Or.inl rfl) hlk hsz h ⟨f1, Or.inr ⟨rfl, fun g => hng g.1⟩⟩ dX3_readFile_97
  refine lv_aload_n S.1 S.2.1 dX3_readFile_44 rfl (lv_at hl 2 rfl) ?_
  refine cv_gf (ci := 3) (C := RX3) (T := TX3) (N := 2) (v := .ref (E.2.1 8)) S K h 2 rfl hinX3 rfl rfl 1 (by decide) hf_21 rfl rfl dX3_readFile_45 ?_
  refine cv_gfN (ci := 0) (C := RX0) (T := TX0) (N := 1) (v := .ref (E.2.1 9)) S K h 8 rfl hinX0 rfl rfl 0 (by decide) (cv_nest_14 K) rfl rfl dX3_readFile_48 ?_
  refine lv_iconst (v := 0) S.1 S.2.1 dX3_readFile_51 (by decide) ?_
  refine cv_iald S K h 9 rfl (n := 300) rfl 0 rfl (by decide) dX3_readFile_52 ?_
  refine cv_rei (show (σ1.1 9 0) = nI (bv 0) from (b1 0 (by decide)).1) ?_
  refine lv_bipush (v := 86) S.1 S.2.1 dX3_readFile_53 (by decide) ?_
  refine lv_icmp_ne (tgt := 96) S.1 S.2.1 dX3_readFile_55 (by decide) (fun c0 => ?_) (fun c0 => ?_)
  · exact key96 H locs ls (fun g => c0 (by rw [g.1]; rfl)) h hl
  · have k0 : bv 0 = 86 := (nI_eq (b := 86) (by have := bl 0 (by decide); omega) (by decide)).mp c0
    refine lv_aload_n S.1 S.2.1 dX3_readFile_58 rfl (lv_at hl 2 rfl) ?_
    refine cv_gf (ci := 3) (C := RX3) (T := TX3) (N := 2) (v := .ref (E.2.1 8)) S K h 2 rfl hinX3 rfl rfl 1 (by decide) hf_21 rfl rfl dX3_readFile_59 ?_
    refine cv_gfN (ci := 0) (C := RX0) (T := TX0) (N := 1) (v := .ref (E.2.1 9)) S K h 8 rfl hinX0 rfl rfl 0 (by decide) (cv_nest_14 K) rfl rfl dX3_readFile_62 ?_
    refine lv_iconst (v := 1) S.1 S.2.1 dX3_readFile_65 (by decide) ?_
    refine cv_iald S K h 9 rfl (n := 300) rfl 1 rfl (by decide) dX3_readFile_66 ?_
    refine cv_rei (show (σ1.1 9 1) = nI (bv 1) from (b1 1 (by decide)).1) ?_
    refine lv_bipush (v := 50) S.1 S.2.1 dX3_readFile_67 (by decide) ?_
    refine lv_icmp_ne (tgt := 96) S.1 S.2.1 dX3_readFile_69 (by decide) (fun c1 => ?_) (fun c1 => ?_)
    · exact key96 H locs ls (fun g => c1 (by rw [g.2.1]; rfl)) h hl
    · have k1 : bv 1 = 50 := (nI_eq (b := 50) (by have := bl 1 (by decide); omega) (by decide)).mp c1
      have b10 := bl 10 (by decide)
      refine lv_iload S.1 S.2.1 dX3_readFile_72 (lv_at hl 1 rfl) ?_
      refine lv_iconst (v := 1) S.1 S.2.1 dX3_readFile_74 (by decide) ?_
      refine lv_icmp_lt (tgt := 96) S.1 S.2.1 dX3_readFile_75 (by decide) (fun c2 => ?_) (fun c2 => ?_)
      · exact key96 H locs ls (fun g => absurd c2 (nI_nlt (b := 1) g.2.2.1 (by omega))) h hl
      · have k2 : 1 ≤ bv 10 := Nat.not_lt.mp (fun g => c2 (nI_lt (b := 1) g (by decide)))
        refine lv_iload S.1 S.2.1 dX3_readFile_78 (lv_at hl 1 rfl) ?_
        refine lv_bipush (v := 40) S.1 S.2.1 dX3_readFile_80 (by decide) ?_
        refine lv_icmp_gt (tgt := 96) S.1 S.2.1 dX3_readFile_82 (by decide) (fun c3 => ?_) (fun c3 => ?_)
        · exact key96 H locs ls (fun g => absurd c3 (nI_nlt (a := 40) g.2.2.2.1 (by decide))) h hl
        · have k3 : bv 10 ≤ 40 := Nat.not_lt.mp (fun g => c3 (nI_lt (a := 40) g (by omega)))
          have hsn : sn bv < 70000 := by unfold sn; omega
          refine lv_iload S.1 S.2.1 dX3_readFile_85 (lv_at hl 0 rfl) ?_
          refine lv_bipush (v := 8) S.1 S.2.1 dX3_readFile_87 (by decide) ?_
          refine lv_iadd S.1 S.2.1 dX3_readFile_89 ?_
          refine cv_rei (show (((nI (sn bv))) + 8) = nI (sn bv + 8) from nI_add _ 8) ?_
          refine lv_sipush (v := 300) S.1 S.2.1 dX3_readFile_90 (by decide) ?_
          refine lv_icmp_le (tgt := 98) S.1 S.2.1 dX3_readFile_93 (by decide) (fun c4 => ?_) (fun c4 => ?_)
          · have k4 : sn bv + 8 ≤ 300 := (nI_leI (b := 300) (by omega) (by decide)).mp c4
            have k5 : gh bv := ⟨k0, k1, k2, k3, k4⟩
            refine lv_aload S.1 S.2.1 dX3_readFile_98 (lv_at hl 6 rfl) ?_
            refine lv_lload_n S.1 S.2.1 dX3_readFile_100 rfl (lv_at hl 5 rfl) ?_
            refine cv_plN (ci := 4) (C := RX4) (T := TX4) (N := 5) (x := pw) S K h (v + 10) (cv_kdV v hv).1 hinX4 (cv_fsV hv) rfl 1 cv_pok_X4_1 (cv_nest_18 K) rfl (Nat.le_of_ble_eq_true rfl) (cv_fsV hv) dX3_readFile_101 (fun σ3 H locs eσ3 h => ?_)
            refine lv_aload S.1 S.2.1 dX3_readFile_104 (lv_at hl 6 rfl) ?_
            refine lv_aload_n S.1 S.2.1 dX3_readFile_106 rfl (lv_at hl 2 rfl) ?_
            refine cv_gf (ci := 3) (C := RX3) (T := TX3) (N := 2) (v := .ref (E.2.1 8)) S K h 2 rfl hinX3 rfl rfl 1 (by decide) hf_21 rfl rfl dX3_readFile_107 ?_
            refine lv_bipush (v := 6) S.1 S.2.1 dX3_readFile_110 (by decide) ?_
            refine lv_iconst (v := 4) S.1 S.2.1 dX3_readFile_112 (by decide) ?_
            refine cv_calll (ci := 0) (C := RX0) (T := TX0) (N := 1) S K h hl.1 rfl rfl rfl (c_numberAt l E σ3 6 4 (by decide)) (cwV 2 S.2.2.2.2 gX3_readFile_X0_numberAt rfl rfl rfl (by decide +kernel) ⟨Nat.le_of_ble_eq_true rfl, Nat.le_of_ble_eq_true rfl⟩) rfl rfl (Nat.le_of_ble_eq_true rfl) ⟨Nat.zero_le _, Nat.zero_le _⟩ dX3_readFile_113 (fun n2 σ4 H locs ⟨hn2, hs9⟩ h => ?_)
            rw [hs9] at h
            have b2 : by_R (σ3.1 9) bv 300 := by rw [eσ3]; exact b1
            rw [pu_num_nv b2 4 (by decide) (by decide)] at hn2
            subst hn2
            refine lv_l2i (v := ((lN (nv bv 6 4)) : Int64).toInt32) S.1 S.2.1 dX3_readFile_116 rfl ?_
            refine cv_rei (show (((lN (nv bv 6 4)) : Int64).toInt32) = nI (nv bv 6 4) from lN_i _) ?_
            refine cv_pfN (ci := 4) (C := RX4) (T := TX4) (N := 5) (x := (nI (nv bv 6 4))) S K h (v + 10) (cv_kdV v hv).1 hinX4 (cv_fsV hv) rfl 2 cv_pok_X4_2 (cv_nest_16 K) rfl rfl rfl (Nat.le_of_ble_eq_true rfl) (cv_fsV hv) dX3_readFile_117 (fun σ5 H locs eσ5 h => ?_)
            refine lv_aload S.1 S.2.1 dX3_readFile_120 (lv_at hl 6 rfl) ?_
            refine lv_iload S.1 S.2.1 dX3_readFile_122 (lv_at hl 1 rfl) ?_
            refine cv_pfN (ci := 4) (C := RX4) (T := TX4) (N := 5) (x := (nI (bv 10))) S K h (v + 10) (cv_kdV v hv).1 hinX4 (cv_fsV hv) rfl 3 cv_pok_X4_3 (cv_nest_17 K) rfl rfl rfl (Nat.le_of_ble_eq_true rfl) (cv_fsV hv) dX3_readFile_124 (fun σ6 H locs eσ6 h => ?_)
            refine lv_aload S.1 S.2.1 dX3_readFile_127 (lv_at hl 6 rfl) ?_
            refine lv_aload_n S.1 S.2.1 dX3_readFile_129 rfl (lv_at hl 2 rfl) ?_
            refine cv_gf (ci := 3) (C := RX3) (T := TX3) (N := 2) (v := .ref (E.2.1 8)) S K h 2 rfl hinX3 rfl rfl 1 (by decide) hf_21 rfl rfl dX3_readFile_130 ?_
            refine lv_iconst (v := 2) S.1 S.2.1 dX3_readFile_133 (by decide) ?_
            refine lv_iconst (v := 4) S.1 S.2.1 dX3_readFile_134 (by decide) ?_
            refine cv_calll (ci := 0) (C := RX0) (T := TX0) (N := 1) S K h hl.1 rfl rfl rfl (c_numberAt l E σ6 2 4 (by decide)) (cwV 2 S.2.2.2.2 gX3_readFile_X0_numberAt rfl rfl rfl (by decide +kernel) ⟨Nat.le_of_ble_eq_true rfl, Nat.le_of_ble_eq_true rfl⟩) rfl rfl (Nat.le_of_ble_eq_true rfl) ⟨Nat.zero_le _, Nat.zero_le _⟩ dX3_readFile_135 (fun n3 σ7 H locs ⟨hn3, hs9⟩ h => ?_)
            rw [hs9] at h
            have b4 : by_R (σ6.1 9) bv 300 := by rw [eσ6, eσ5]; exact b2
            rw [pu_num_nv b4 4 (by decide) (by decide)] at hn3
            subst hn3
            refine lv_l2i (v := ((lN (nv bv 2 4)) : Int64).toInt32) S.1 S.2.1 dX3_readFile_138 rfl ?_
            refine cv_rei (show (((lN (nv bv 2 4)) : Int64).toInt32) = nI (nv bv 2 4) from lN_i _) ?_
            refine cv_pfN (ci := 4) (C := RX4) (T := TX4) (N := 5) (x := (nI (nv bv 2 4))) S K h (v + 10) (cv_kdV v hv).1 hinX4 (cv_fsV hv) rfl 4 cv_pok_X4_4 (cv_nest_15 K) rfl rfl rfl (Nat.le_of_ble_eq_true rfl) (cv_fsV hv) dX3_readFile_139 (fun σ8 H locs eσ8 h => ?_)
            have f5 : ff_F v σ σ8 ∧ σ8.1 = σ1.1 ∧ σ8.2.2.2 (v + 10) 1 = pw ∧ σ8.2.2.1 (v + 10) 2 = nI (nv bv 6 4) ∧ σ8.2.2.1 (v + 10) 3 = nI (bv 10) ∧ σ8.2.2.1 (v + 10) 4 = nI (nv bv 2 4) := by
              rw [eσ8, eσ6, eσ5, eσ3]
              refine ⟨(((f1.trans ff_uG).trans ff_uF).trans ff_uF).trans ff_uF, rfl, ?_, ?_, ?_, ?_⟩ <;> simp [cv_F3, cv_F4, cv_G4, cv_G3]
            refine lv_aload_n S.1 S.2.1 dX3_readFile_142 rfl (lv_at hl 2 rfl) ?_
            refine cv_gf (ci := 3) (C := RX3) (T := TX3) (N := 2) (v := .ref (E.2.1 3)) S K h 2 rfl hinX3 rfl rfl 0 (by decide) hf_14 rfl rfl dX3_readFile_143 ?_
            refine lv_lload_n S.1 S.2.1 dX3_readFile_146 rfl (lv_at hl 5 rfl) ?_
            refine lv_aload S.1 S.2.1 dX3_readFile_147 (lv_at hl 6 rfl) ?_
            refine cv_gfN (ci := 4) (C := RX4) (T := TX4) (N := 5) (v := .int (σ8.2.2.1 (v + 10) 2)) S K h (v + 10) (cv_kdV v hv).1 hinX4 (cv_fsV hv) rfl 2 (by decide) (cv_nest_16 K) rfl rfl dX3_readFile_149 ?_
            refine cv_rei (show (σ8.2.2.1 (v + 10) 2) = nI (nv bv 6 4) from f5.2.2.2.1) ?_
            refine lv_iload S.1 S.2.1 dX3_readFile_152 (lv_at hl 1 rfl) ?_
            refine cv_callv (ci := 1) (C := RX1) (T := TX1) (N := 4) S K h hl.1 rfl rfl rfl (c_setKey l E σ8 pw (nI (nv bv 6 4)) (bv 10) k3) (cwV 3 S.2.2.2.2 gX3_readFile_X1_setKey rfl rfl rfl (by decide +kernel) ⟨Nat.le_of_ble_eq_true rfl, Nat.le_of_ble_eq_true rfl⟩) rfl rfl (Nat.le_of_ble_eq_true rfl) ⟨Nat.zero_le _, Nat.zero_le _⟩ dX3_readFile_154 (fun σ9 H locs hk h => ?_)
            have b6 : by_R (σ9.1 9) bv 300 := by rw [hk.1.1 9 (by decide), f5.2.1]; exact b1
            have hkk : pu_eq 4 (σ9.1 4) (sk bv pw) := hk.2
            have f6 : ff_F v σ σ9 ∧ σ9.2 = σ8.2 := ⟨f5.1.trans (ff_fr hk.1 (by decide)), hk.1.2⟩
            refine lv_aload_n S.1 S.2.1 dX3_readFile_157 rfl (lv_at hl 2 rfl) ?_
            refine cv_gf (ci := 3) (C := RX3) (T := TX3) (N := 2) (v := .ref (E.2.1 8)) S K h 2 rfl hinX3 rfl rfl 1 (by decide) hf_21 rfl rfl dX3_readFile_158 ?_
            refine lv_bipush (v := 13) S.1 S.2.1 dX3_readFile_161 (by decide) ?_
            refine lv_bipush (v := 8) S.1 S.2.1 dX3_readFile_163 (by decide) ?_
            refine cv_calll (ci := 0) (C := RX0) (T := TX0) (N := 1) S K h hl.1 rfl rfl rfl (c_numberAt l E σ9 13 8 (by decide)) (cwV 2 S.2.2.2.2 gX3_readFile_X0_numberAt rfl rfl rfl (by decide +kernel) ⟨Nat.le_of_ble_eq_true rfl, Nat.le_of_ble_eq_true rfl⟩) rfl rfl (Nat.le_of_ble_eq_true rfl) ⟨Nat.zero_le _, Nat.zero_le _⟩ dX3_readFile_165 (fun n4 σ10 H locs ⟨hn4, hs9⟩ h => ?_)
            rw [hs9] at h
            rw [pu_num_nv b6 8 (by decide) (by decide)] at hn4
            subst hn4
            refine lv_aload_n S.1 S.2.1 dX3_readFile_168 rfl (lv_at hl 2 rfl) ?_
            refine cv_gf (ci := 3) (C := RX3) (T := TX3) (N := 2) (v := .ref (E.2.1 3)) S K h 2 rfl hinX3 rfl rfl 0 (by decide) hf_14 rfl rfl dX3_readFile_169 ?_
            refine lv_aload_n S.1 S.2.1 dX3_readFile_172 rfl (lv_at hl 2 rfl) ?_
            refine cv_gf (ci := 3) (C := RX3) (T := TX3) (N := 2) (v := .ref (E.2.1 8)) S K h 2 rfl hinX3 rfl rfl 1 (by decide) hf_21 rfl rfl dX3_readFile_173 ?_
            refine lv_bipush (v := 13) S.1 S.2.1 dX3_readFile_176 (by decide) ?_
            refine lv_iconst (v := 3) S.1 S.2.1 dX3_readFile_178 (by decide) ?_
            refine cv_calll (ci := 1) (C := RX1) (T := TX1) (N := 4) S K h hl.1 rfl rfl rfl (c_seal l E σ9 13 (by decide) 3) (cwV 3 S.2.2.2.2 gX3_readFile_X1_seal rfl rfl rfl (by decide +kernel) ⟨Nat.le_of_ble_eq_true rfl, Nat.le_of_ble_eq_true rfl⟩) rfl rfl (Nat.le_of_ble_eq_true rfl) ⟨Nat.zero_le _, Nat.zero_le _⟩ dX3_readFile_179 (fun v1 σ11 H locs hs1 h => ?_)
            have hv1 : v1 = pu_sl (sk bv pw) (nf bv) 13 3 := by rw [hs1.1]; exact pu_sl_eq hkk ((by_nf b6).le (by decide)) 3
            have f7 : ff_F v σ σ11 ∧ σ11.2 = σ8.2 := ⟨f6.1.trans (ff_fr hs1.2 (by decide)), hs1.2.2.trans f6.2⟩
            refine W.lcmp S.1 S.2.1 dX3_readFile_182 ?_
            refine lv_if_ne (tgt := 215) S.1 S.2.1 dX3_readFile_183 (by decide) (fun c5 => ?_) (fun c5 => ?_)
            · refine lv_iconst (v := 0) S.1 S.2.1 dX3_readFile_215 (by decide) ?_
              exact cv_zret S hr (Or.inl rfl) hlk hsz h ⟨f7.1, Or.inr ⟨rfl, fun g => c5 (lg_eq0.mpr (by rw [hv1]; exact g.2.1.1))⟩⟩ dX3_readFile_216
            · have e1_ : lN (nv bv 13 8) = pu_sl (sk bv pw) (nf bv) 13 3 := (lg_eq0.mp c5).trans hv1
              have b7 : by_R (σ11.1 9) bv 300 := by rw [hs1.2.1 9 (by decide)]; exact b6
              have hk7 : pu_eq 4 (σ11.1 4) (sk bv pw) := by rw [hs1.2.1 4 (by decide)]; exact hkk
              refine lv_aload_n S.1 S.2.1 dX3_readFile_186 rfl (lv_at hl 2 rfl) ?_
              refine cv_gf (ci := 3) (C := RX3) (T := TX3) (N := 2) (v := .ref (E.2.1 8)) S K h 2 rfl hinX3 rfl rfl 1 (by decide) hf_21 rfl rfl dX3_readFile_187 ?_
              refine lv_iload S.1 S.2.1 dX3_readFile_190 (lv_at hl 0 rfl) ?_
              refine lv_bipush (v := 8) S.1 S.2.1 dX3_readFile_192 (by decide) ?_
              refine cv_calll (ci := 0) (C := RX0) (T := TX0) (N := 1) S K h hl.1 rfl rfl rfl (c_numberAt l E σ11 (sn bv) 8 k4) (cwV 2 S.2.2.2.2 gX3_readFile_X0_numberAt rfl rfl rfl (by decide +kernel) ⟨Nat.le_of_ble_eq_true rfl, Nat.le_of_ble_eq_true rfl⟩) rfl rfl (Nat.le_of_ble_eq_true rfl) ⟨Nat.zero_le _, Nat.zero_le _⟩ dX3_readFile_194 (fun n5 σ12 H locs ⟨hn5, hs9⟩ h => ?_)
              rw [hs9] at h
              rw [pu_num_nv b7 8 (by decide) k4] at hn5
              subst hn5
              refine lv_aload_n S.1 S.2.1 dX3_readFile_197 rfl (lv_at hl 2 rfl) ?_
              refine cv_gf (ci := 3) (C := RX3) (T := TX3) (N := 2) (v := .ref (E.2.1 3)) S K h 2 rfl hinX3 rfl rfl 0 (by decide) hf_14 rfl rfl dX3_readFile_198 ?_
              refine lv_aload_n S.1 S.2.1 dX3_readFile_201 rfl (lv_at hl 2 rfl) ?_
              refine cv_gf (ci := 3) (C := RX3) (T := TX3) (N := 2) (v := .ref (E.2.1 8)) S K h 2 rfl hinX3 rfl rfl 1 (by decide) hf_21 rfl rfl dX3_readFile_202 ?_
              refine lv_iload S.1 S.2.1 dX3_readFile_205 (lv_at hl 0 rfl) ?_
              refine lv_iconst (v := 4) S.1 S.2.1 dX3_readFile_207 (by decide) ?_
              refine cv_calll (ci := 1) (C := RX1) (T := TX1) (N := 4) S K h hl.1 rfl rfl rfl (c_seal l E σ11 (sn bv) (by omega) 4) (cwV 3 S.2.2.2.2 gX3_readFile_X1_seal rfl rfl rfl (by decide +kernel) ⟨Nat.le_of_ble_eq_true rfl, Nat.le_of_ble_eq_true rfl⟩) rfl rfl (Nat.le_of_ble_eq_true rfl) ⟨Nat.zero_le _, Nat.zero_le _⟩ dX3_readFile_208 (fun v2 σ13 H locs hs2 h => ?_)
              have hv2 : v2 = pu_sl (sk bv pw) (nf bv) (sn bv) 4 := by rw [hs2.1]; exact pu_sl_eq hk7 ((by_nf b7).le (by omega)) 4
              have f8 : ff_F v σ σ13 ∧ σ13.2 = σ8.2 := ⟨f7.1.trans (ff_fr hs2.2 (by decide)), hs2.2.2.trans f7.2⟩
              refine W.lcmp S.1 S.2.1 dX3_readFile_211 ?_
              refine lv_if_eq (tgt := 217) S.1 S.2.1 dX3_readFile_212 (by decide) (fun c6 => ?_) (fun c6 => ?_)
              · have e2_ : lN (nv bv (sn bv) 8) = pu_sl (sk bv pw) (nf bv) (sn bv) 4 := (lg_eq0.mp c6).trans hv2
                have b8 : by_R (σ13.1 9) bv 300 := by rw [hs2.2.1 9 (by decide)]; exact b7
                have hk8 : pu_eq 4 (σ13.1 4) (sk bv pw) := by rw [hs2.2.1 4 (by decide)]; exact hk7
                refine lv_aload_n S.1 S.2.1 dX3_readFile_217 rfl (lv_at hl 2 rfl) ?_
                refine cv_gf (ci := 3) (C := RX3) (T := TX3) (N := 2) (v := .ref (E.2.1 3)) S K h 2 rfl hinX3 rfl rfl 0 (by decide) hf_14 rfl rfl dX3_readFile_218 ?_
                refine lv_aload_n S.1 S.2.1 dX3_readFile_221 rfl (lv_at hl 2 rfl) ?_
                refine cv_gf (ci := 3) (C := RX3) (T := TX3) (N := 2) (v := .ref (E.2.1 8)) S K h 2 rfl hinX3 rfl rfl 1 (by decide) hf_21 rfl rfl dX3_readFile_222 ?_
                refine lv_bipush (v := 21) S.1 S.2.1 dX3_readFile_225 (by decide) ?_
                refine lv_iload S.1 S.2.1 dX3_readFile_227 (lv_at hl 0 rfl) ?_
                refine lv_aload S.1 S.2.1 dX3_readFile_229 (lv_at hl 6 rfl) ?_
                refine cv_gfN (ci := 4) (C := RX4) (T := TX4) (N := 5) (v := .int (σ13.2.2.1 (v + 10) 4)) S K h (v + 10) (cv_kdV v hv).1 hinX4 (cv_fsV hv) rfl 4 (by decide) (cv_nest_15 K) rfl rfl dX3_readFile_231 ?_
                refine cv_rei (show (σ13.2.2.1 (v + 10) 4) = nI (nv bv 2 4) from by rw [f8.2]; exact f5.2.2.2.2.2) ?_
                refine cv_callv (ci := 1) (C := RX1) (T := TX1) (N := 4) S K h hl.1 rfl rfl rfl (c_applyStream l E σ13 21 (nv bv 11 2) (by unfold sn at k4; omega) (nI (nv bv 2 4))) (cwV 4 S.2.2.2.2 gX3_readFile_X1_applyStream rfl rfl rfl (by decide +kernel) ⟨Nat.le_of_ble_eq_true rfl, Nat.le_of_ble_eq_true rfl⟩) rfl rfl (Nat.le_of_ble_eq_true rfl) ⟨Nat.zero_le _, Nat.zero_le _⟩ dX3_readFile_234 (fun σ14 H locs hy h => ?_)
                have b9 : by_R (σ14.1 9) (sp bv pw) 300 := by
                  intro j hj
                  rw [hy.2]
                  unfold sp
                  by_cases hj2 : 21 ≤ j ∧ j < sn bv
                  · rw [if_pos hj2, pu_put_in hj2.1 hj2.2, pu_strm_eq hk8, pu_strm_n, show 21 + (j - 21) = j by omega, (b8 j hj).1, xor_n]
                    exact ⟨rfl, xor_lt (b8 j hj).2 (stn_lt _ _ _)⟩
                  · rw [if_neg hj2, pu_put_out (by unfold sn at hj2; omega)]
                    exact b8 j hj
                have f9 : ff_F v σ σ14 ∧ σ14.2 = σ8.2 := ⟨f8.1.trans (ff_fr hy.1 (by decide)), hy.1.2.trans f8.2⟩
                refine lv_aload S.1 S.2.1 dX3_readFile_237 (lv_at hl 6 rfl) ?_
                refine cv_gfN (ci := 4) (C := RX4) (T := TX4) (N := 5) (v := .ref (E.2.1 (v + 13))) S K h (v + 10) (cv_kdV v hv).1 hinX4 (cv_fsV hv) rfl 0 (by decide) (cv_nest_13 K) rfl rfl dX3_readFile_239 ?_
                refine lv_aload_n S.1 S.2.1 dX3_readFile_242 rfl (lv_at hl 2 rfl) ?_
                refine cv_gf (ci := 3) (C := RX3) (T := TX3) (N := 2) (v := .ref (E.2.1 8)) S K h 2 rfl hinX3 rfl rfl 1 (by decide) hf_21 rfl rfl dX3_readFile_243 ?_
                refine lv_bipush (v := 21) S.1 S.2.1 dX3_readFile_246 (by decide) ?_
                refine lv_iload S.1 S.2.1 dX3_readFile_248 (lv_at hl 0 rfl) ?_
                refine cv_calli (ci := 2) (C := RX2) (T := TX2) (N := 4) S K h hl.1 (cv_kdV v hv).2.1 (cv_fsL hv) rfl (c_readContent l E σ14 v hv (sp bv pw) b9 (sn bv) (by omega)) (cwV 3 S.2.2.2.2 gX3_readFile_X2_readContent rfl rfl rfl (by decide +kernel) ⟨Nat.le_of_ble_eq_true rfl, Nat.le_of_ble_eq_true rfl⟩) rfl rfl (Nat.le_of_ble_eq_true rfl) ⟨Nat.zero_le _, Nat.zero_le _⟩ dX3_readFile_250 (fun rr σ15 H locs hc h => ?_)
                have hfld : ∀ i, i ≠ 3 ∨ True → σ15.2.2.1 (v + 10) i = σ8.2.2.1 (v + 10) i ∧ σ15.2.2.2 (v + 10) i = σ8.2.2.2 (v + 10) i := fun i _ => ⟨by rw [hc.1.2.2.1 (v + 10) i (Or.inl (by omega)), f9.2], by rw [hc.1.2.2.2, f9.2]⟩
                refine cv_zret S hr (hc.2.elim (fun g => Or.inr g.1) (fun g => Or.inl g.1)) hlk hsz h ⟨f9.1.trans (ff_el hc.1), ?_⟩ dX3_readFile_253
                rcases hc.2 with ⟨g1, g2, g3⟩ | ⟨g1, g2⟩
                · refine Or.inl ⟨g1, ⟨k5, ⟨e1_, e2_⟩, g2⟩, ?_, ?_, ?_, ?_, g3⟩
                  · rw [(hfld 1 (Or.inr trivial)).2]; exact f5.2.2.1
                  · rw [(hfld 2 (Or.inr trivial)).1]; exact f5.2.2.2.1
                  · rw [(hfld 3 (Or.inr trivial)).1]; exact f5.2.2.2.2.1
                  · rw [(hfld 4 (Or.inr trivial)).1]; exact f5.2.2.2.2.2
                · exact Or.inr ⟨g1, fun g => g2 g.2.2⟩
              · refine lv_iconst (v := 0) S.1 S.2.1 dX3_readFile_215 (by decide) ?_
                exact cv_zret S hr (Or.inl rfl) hlk hsz h ⟨f8.1, Or.inr ⟨rfl, fun g => c6 (lg_eq0.mpr (by rw [hv2]; exact g.2.1.2))⟩⟩ dX3_readFile_216
          · exact key96 H locs ls (fun g => c4 (nI_le (b := 300) g.2.2.2.2 (by decide))) h hl

set_option maxHeartbeats 4000000 in
set_option maxRecDepth 100000 in
/-- the vault w is copied into the vault v -/
theorem c_vaultCopy (l : Launch) (E : cv_E) (σ : cv_S) (v w : Nat) (hv : v < 3) (hw : w < 3) (hvw : v ≠ w) (cnt : Nat) (N : Nat → Int64) (O : Nat → Nat) (V : Nat → Nat → Int64) (hR : el_R σ w cnt N O V) : cv_Mv l E yX4_copyFrom wsX4_copyFrom (cv_R 3) [.ref (E.2.1 (v + 10)), .ref (E.2.1 (w + 10))] σ (fun τ => ff_F v σ τ ∧ el_R τ v cnt N O V ∧ τ.2.2.2 (v + 10) 1 = σ.2.2.2 (w + 10) 1 ∧ τ.2.2.1 (v + 10) 2 = σ.2.2.1 (w + 10) 2 ∧ τ.2.2.1 (v + 10) 3 = σ.2.2.1 (w + 10) 3 ∧ τ.2.2.1 (v + 10) 4 = σ.2.2.1 (w + 10) 4) := by
  intro sz
  refine cv_in (ws := wsX4_copyFrom) (cc := cX4_copyFrom) (maxL := 2) (ret := none) (own := RX4) rfl (by decide) rfl (Nat.le_of_ble_eq_true rfl) ?_
  intro p e s m below meth c S K hr hlk hsz h ls hl
  have hl : lv_has ls 2 [(0, .ref (E.2.1 (v + 10))), (1, .ref (E.2.1 (w + 10)))] := hl
  have hinX4 : ∀ w ∈ u_ws RX4 TX4 5, w ∈ wsX4_copyFrom := by decide +kernel
  have hf_10 := S.2.2.2.2 (.fieldLink RX4 10 "CrashVault$Vault" "list" "LCrashVault$EntryList;") (by decide +kernel)
  have hf_16 := S.2.2.2.2 (.fieldLink RX4 16 "CrashVault$Vault" "password" "J") (by decide +kernel)
  have hf_20 := S.2.2.2.2 (.fieldLink RX4 20 "CrashVault$Vault" "salt" "I") (by decide +kernel)
  have hf_24 := S.2.2.2.2 (.fieldLink RX4 24 "CrashVault$Vault" "rounds" "I") (by decide +kernel)
  have hf_27 := S.2.2.2.2 (.fieldLink RX4 27 "CrashVault$Vault" "serial" "I") (by decide +kernel)
  refine lv_aload_n S.1 S.2.1 dX4_copyFrom_0 rfl (lv_at hl 0 rfl) ?_
  refine lv_aload_n S.1 S.2.1 dX4_copyFrom_1 rfl (lv_at hl 1 rfl) ?_
  refine cv_gf (ci := 4) (C := RX4) (T := TX4) (N := 5) (v := .long (σ.2.2.2 (w + 10) 1)) S K h (w + 10) (cv_kdV w hw).1 hinX4 (cv_fsV hw) rfl 1 (by decide) hf_16 rfl rfl dX4_copyFrom_2 ?_
  refine lv_topl (fun x1 ex1 => ?_)
  refine cv_pl (ci := 4) (C := RX4) (T := TX4) (N := 5) (x := x1) S K h (v + 10) (cv_kdV v hv).1 hinX4 (cv_fsV hv) rfl 1 cv_pok_X4_1 hf_16 rfl (Nat.le_of_ble_eq_true rfl) (cv_fsV hv) dX4_copyFrom_5 (fun σ16 H locs eσ16 h => ?_)
  refine lv_aload_n S.1 S.2.1 dX4_copyFrom_8 rfl (lv_at hl 0 rfl) ?_
  refine lv_aload_n S.1 S.2.1 dX4_copyFrom_9 rfl (lv_at hl 1 rfl) ?_
  refine cv_gf (ci := 4) (C := RX4) (T := TX4) (N := 5) (v := .int (σ16.2.2.1 (w + 10) 2)) S K h (w + 10) (cv_kdV w hw).1 hinX4 (cv_fsV hw) rfl 2 (by decide) hf_20 rfl rfl dX4_copyFrom_10 ?_
  refine lv_topi (fun x2 ex2 => ?_)
  refine cv_pf (ci := 4) (C := RX4) (T := TX4) (N := 5) (x := x2) S K h (v + 10) (cv_kdV v hv).1 hinX4 (cv_fsV hv) rfl 2 cv_pok_X4_2 hf_20 rfl rfl rfl (Nat.le_of_ble_eq_true rfl) (cv_fsV hv) dX4_copyFrom_13 (fun σ17 H locs eσ17 h => ?_)
  refine lv_aload_n S.1 S.2.1 dX4_copyFrom_16 rfl (lv_at hl 0 rfl) ?_
  refine lv_aload_n S.1 S.2.1 dX4_copyFrom_17 rfl (lv_at hl 1 rfl) ?_
  refine cv_gf (ci := 4) (C := RX4) (T := TX4) (N := 5) (v := .int (σ17.2.2.1 (w + 10) 3)) S K h (w + 10) (cv_kdV w hw).1 hinX4 (cv_fsV hw) rfl 3 (by decide) hf_24 rfl rfl dX4_copyFrom_18 ?_
  refine lv_topi (fun x3 ex3 => ?_)
  refine cv_pf (ci := 4) (C := RX4) (T := TX4) (N := 5) (x := x3) S K h (v + 10) (cv_kdV v hv).1 hinX4 (cv_fsV hv) rfl 3 cv_pok_X4_3 hf_24 rfl rfl rfl (Nat.le_of_ble_eq_true rfl) (cv_fsV hv) dX4_copyFrom_21 (fun σ18 H locs eσ18 h => ?_)
  refine lv_aload_n S.1 S.2.1 dX4_copyFrom_24 rfl (lv_at hl 0 rfl) ?_
  refine lv_aload_n S.1 S.2.1 dX4_copyFrom_25 rfl (lv_at hl 1 rfl) ?_
  refine cv_gf (ci := 4) (C := RX4) (T := TX4) (N := 5) (v := .int (σ18.2.2.1 (w + 10) 4)) S K h (w + 10) (cv_kdV w hw).1 hinX4 (cv_fsV hw) rfl 4 (by decide) hf_27 rfl rfl dX4_copyFrom_26 ?_
  refine lv_topi (fun x4 ex4 => ?_)
  refine cv_pf (ci := 4) (C := RX4) (T := TX4) (N := 5) (x := x4) S K h (v + 10) (cv_kdV v hv).1 hinX4 (cv_fsV hv) rfl 4 cv_pok_X4_4 hf_27 rfl rfl rfl (Nat.le_of_ble_eq_true rfl) (cv_fsV hv) dX4_copyFrom_29 (fun σ19 H locs eσ19 h => ?_)
  refine lv_aload_n S.1 S.2.1 dX4_copyFrom_32 rfl (lv_at hl 0 rfl) ?_
  refine cv_gf (ci := 4) (C := RX4) (T := TX4) (N := 5) (v := .ref (E.2.1 (v + 13))) S K h (v + 10) (cv_kdV v hv).1 hinX4 (cv_fsV hv) rfl 0 (by decide) hf_10 rfl rfl dX4_copyFrom_33 ?_
  refine lv_aload_n S.1 S.2.1 dX4_copyFrom_36 rfl (lv_at hl 1 rfl) ?_
  refine cv_gf (ci := 4) (C := RX4) (T := TX4) (N := 5) (v := .ref (E.2.1 (w + 13))) S K h (w + 10) (cv_kdV w hw).1 hinX4 (cv_fsV hw) rfl 0 (by decide) hf_10 rfl rfl dX4_copyFrom_37 ?_
  have hne : ¬ w + 10 = v + 10 := by omega
  have f4 : ff_F v σ σ19 ∧ el_R σ19 w cnt N O V ∧ σ19.2.2.2 (v + 10) 1 = σ.2.2.2 (w + 10) 1 ∧ σ19.2.2.1 (v + 10) 2 = σ.2.2.1 (w + 10) 2 ∧ σ19.2.2.1 (v + 10) 3 = σ.2.2.1 (w + 10) 3 ∧ σ19.2.2.1 (v + 10) 4 = σ.2.2.1 (w + 10) 4 := by
    have hx2 : x2 = σ.2.2.1 (w + 10) 2 := by rw [ex2, eσ16]; rfl
    have hx3 : x3 = σ.2.2.1 (w + 10) 3 := by rw [ex3, eσ17, eσ16, cv_F3, if_neg hne]; rfl
    have hx4 : x4 = σ.2.2.1 (w + 10) 4 := by rw [ex4, eσ18, eσ17, eσ16, cv_F3, if_neg hne, cv_F3, if_neg hne]; rfl
    rw [eσ19, eσ18, eσ17, eσ16, hx2, hx3, hx4, ex1]
    refine ⟨((ff_uG.trans ff_uF).trans ff_uF).trans ff_uF, ?_, ?_, ?_, ?_, ?_⟩
    · obtain ⟨q1, q2, q3⟩ := hR
      refine ⟨?_, q2, q3⟩
      rw [cv_F3, if_neg (by omega), cv_F3, if_neg (by omega), cv_F3, if_neg (by omega)]
      exact q1
    all_goals simp [cv_F3, cv_F4, cv_G4, cv_G3]
  refine cv_callv (ci := 2) (C := RX2) (T := TX2) (N := 4) S K h hl.1 (cv_kdV v hv).2.1 (cv_fsL hv) rfl (c_listCopy l E σ19 v w hv hw hvw cnt N O V f4.2.1) (cwV 1 S.2.2.2.2 gX4_copyFrom_X2_copyFrom rfl rfl rfl (by decide +kernel) ⟨Nat.le_of_ble_eq_true rfl, Nat.le_of_ble_eq_true rfl⟩) rfl rfl (Nat.le_of_ble_eq_true rfl) ⟨Nat.zero_le _, Nat.zero_le _⟩ dX4_copyFrom_40 (fun σ20 H locs hc h => ?_)
  refine cv_vret S hr hlk hsz h ⟨f4.1.trans (ff_el hc.1), hc.2, ?_, ?_, ?_, ?_⟩ dX4_copyFrom_43
  · rw [hc.1.2.2.2]; exact f4.2.2.1
  · rw [hc.1.2.2.1 _ _ (Or.inl (by omega))]; exact f4.2.2.2.1
  · rw [hc.1.2.2.1 _ _ (Or.inl (by omega))]; exact f4.2.2.2.2.1
  · rw [hc.1.2.2.1 _ _ (Or.inl (by omega))]; exact f4.2.2.2.2.2
