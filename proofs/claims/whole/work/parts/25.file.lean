/-! 25: pure words: files, made and looked at -/
theorem pu_num_eq {f g : Nat → Int32} {a : Nat} : ∀ n, (∀ j, j < n → f (a + j) = g (a + j)) → pu_num f a n = pu_num g a n
  | 0, _ => rfl
  | n + 1, h => by
    show pu_num f a n ||| (f (a + n)).toInt64 <<< _ = pu_num g a n ||| (g (a + n)).toInt64 <<< _
    rw [pu_num_eq n (fun j hj => h j (by omega)), h n (by omega)]
theorem pu_chain_eq {k k' f g : Nat → Int32} {n : Nat} (hk : pu_eq 4 k k') (hf : pu_eq n f g) (z : Int32) : ∀ i, pu_eq 4 (pu_chain k f n z i) (pu_chain k' g n z i)
  | 0 => hk
  | i + 1 => by
    show pu_eq 4 (pu_blk (pu_chain k f n z i) (pu_word f n i) (nI i) z) (pu_blk (pu_chain k' g n z i) (pu_word g n i) (nI i) z)
    have e : pu_word f n i = pu_word g n i := by
      unfold pu_word
      rw [pu_num_eq _ (fun j hj => hf _ (by omega))]
    rw [pu_blk_eq (pu_chain_eq hk hf z i), e]
    exact pu_eq.rf
theorem pu_seal_eq {k k' f g : Nat → Int32} {n : Nat} (hk : pu_eq 4 k k') (hf : pu_eq n f g) (z : Int32) : pu_seal k f n z = pu_seal k' g n z := by
  unfold pu_seal
  rw [pu_blk_eq (pu_chain_eq hk hf z _)]
theorem pu_sl_eq {k k' f g : Nat → Int32} {n : Nat} (hk : pu_eq 4 k k') (hf : pu_eq n f g) (z : Int32) : pu_sl k f n z = pu_sl k' g n z := by
  unfold pu_sl
  rw [pu_seal_eq hk hf]
theorem pu_strm_eq {k k' : Nat → Int32} (hk : pu_eq 4 k k') (sr : Int32) (j : Nat) : pu_strm k sr j = pu_strm k' sr j := by
  unfold pu_strm
  rw [pu_blk_eq hk]
/-- the stream's byte as a number -/
def stn (k : Nat → Int32) (sr : Int32) (j : Nat) : Nat := ib (pu_blk k (nI (j / 64)) sr 5 (j % 64 / 4)) (j % 64 % 4)
theorem pu_strm_n (k : Nat → Int32) (sr : Int32) (j : Nat) : pu_strm k sr j = nI (stn k sr j) := ib_ushr _ (by omega)
theorem stn_lt (k : Nat → Int32) (sr : Int32) (j : Nat) : stn k sr j < 256 := ib_lt _ _
theorem stn_eq {k k' : Nat → Int32} (hk : pu_eq 4 k k') (sr : Int32) (j : Nat) : stn k sr j = stn k' sr j := by
  unfold stn
  rw [pu_blk_eq hk]
theorem xor_n (a b : Nat) : nI a ^^^ nI b = nI (a ^^^ b) := by
  apply Int32.toBitVec_inj.1
  show BitVec.ofNat 32 a ^^^ BitVec.ofNat 32 b = BitVec.ofNat 32 (a ^^^ b)
  apply BitVec.eq_of_getLsbD_eq
  intro i hi
  simp [hi]
theorem xor_lt {a b : Nat} (ha : a < 256) (hb : b < 256) : a ^^^ b < 256 := Nat.xor_lt_two_pow (n := 8) ha hb
/-- a list as a row -/
def lf (l : List Nat) : Nat → Int32 := fun j => nI (l.getD j 0)
theorem rh_lf {f : Nat → Int32} {l : List Nat} (h : rh f 0 l) : pu_eq l.length f (lf l) := fun i hi => by
  have := (h i hi).1
  rw [Nat.zero_add] at this
  exact this
def fl_h (sa sr : Int32) (rd n : Nat) : List Nat := [86, 50] ++ byl sr.toInt64 4 ++ byl sa.toInt64 4 ++ byl (nI rd).toInt64 1 ++ byl (nI n).toInt64 2
def fl_1 (k : Nat → Int32) (sa sr : Int32) (rd n : Nat) : List Nat := fl_h sa sr rd n ++ byl (pu_sl k (lf (fl_h sa sr rd n)) 13 3) 8
def fl_x (k : Nat → Int32) (sr : Int32) (C : List Nat) : List Nat := (List.range C.length).map (fun j => C.getD j 0 ^^^ stn k sr j)
def fl_2 (k : Nat → Int32) (sa sr : Int32) (rd : Nat) (C : List Nat) : List Nat := fl_1 k sa sr rd C.length ++ fl_x k sr C
def fl_3 (k : Nat → Int32) (sa sr : Int32) (rd : Nat) (C : List Nat) : List Nat := fl_2 k sa sr rd C ++ byl (pu_sl k (lf (fl_2 k sa sr rd C)) (21 + C.length) 4) 8
/-- the file of a vault -/
def fl (pw : Int64) (sa sr : Int32) (rd : Nat) (C : List Nat) : List Nat := fl_3 (pu_key pw sa rd) sa sr rd C
theorem fl_h_len (sa sr : Int32) (rd n : Nat) : (fl_h sa sr rd n).length = 13 := by unfold fl_h; simp only [List.length_append, byl_len]; rfl
theorem fl_1_len (k : Nat → Int32) (sa sr : Int32) (rd n : Nat) : (fl_1 k sa sr rd n).length = 21 := by unfold fl_1; rw [List.length_append, fl_h_len, byl_len]
theorem fl_x_len (k : Nat → Int32) (sr : Int32) (C : List Nat) : (fl_x k sr C).length = C.length := by unfold fl_x; rw [List.length_map, List.length_range]
theorem fl_2_len (k : Nat → Int32) (sa sr : Int32) (rd : Nat) (C : List Nat) : (fl_2 k sa sr rd C).length = 21 + C.length := by unfold fl_2; rw [List.length_append, fl_1_len, fl_x_len]
theorem fl_len (pw : Int64) (sa sr : Int32) (rd : Nat) (C : List Nat) : (fl pw sa sr rd C).length = 29 + C.length := by unfold fl fl_3; rw [List.length_append, fl_2_len, byl_len]; omega
theorem fl_x_get {k : Nat → Int32} {sr : Int32} {C : List Nat} {j : Nat} (h : j < C.length) : (fl_x k sr C).getD j 0 = C.getD j 0 ^^^ stn k sr j := by
  unfold fl_x
  rw [List.getD_eq_getElem?_getD, List.getElem?_map, List.getElem?_range h]
  rfl
/-- the content hidden in its place -/
theorem rh_hide {f : Nat → Int32} {k : Nat → Int32} {sr : Int32} {A C : List Nat} {a : Nat} (h : rh f 0 (A ++ C)) (ha : a = A.length) : rh (pu_put f (fun j => f (a + j) ^^^ pu_strm k sr j) a C.length) 0 (A ++ fl_x k sr C) := by
  subst ha
  intro j hj
  rw [List.length_append, fl_x_len] at hj
  have hj2 := h j (by rw [List.length_append]; exact hj)
  rw [Nat.zero_add] at hj2 ⊢
  by_cases hl : j < A.length
  · rw [pu_put_out (Or.inl hl), ld_l hl]
    rw [ld_l hl] at hj2
    exact hj2
  · rw [pu_put_in (by omega) (by omega), ld_r (by omega), fl_x_get (by omega), show A.length + (j - A.length) = j by omega]
    rw [ld_r (by omega)] at hj2
    rw [hj2.1, pu_strm_n, xor_n]
    exact ⟨rfl, xor_lt hj2.2 (stn_lt _ _ _)⟩
/-- looking at a slot's bytes bv: where its content ends, its key, its plain bytes, whether it is good -/
def sn (bv : Nat → Nat) : Nat := 21 + nv bv 11 2
def sk (bv : Nat → Nat) (pw : Int64) : Nat → Int32 := pu_key pw (nI (nv bv 6 4)) (bv 10)
def sp (bv : Nat → Nat) (pw : Int64) : Nat → Nat := fun j => if 21 ≤ j ∧ j < sn bv then bv j ^^^ stn (sk bv pw) (nI (nv bv 2 4)) (j - 21) else bv j
def nf (bv : Nat → Nat) : Nat → Int32 := fun j => nI (bv j)
def gh (bv : Nat → Nat) : Prop := bv 0 = 86 ∧ bv 1 = 50 ∧ 1 ≤ bv 10 ∧ bv 10 ≤ 40 ∧ sn bv + 8 ≤ 300
def gs (bv : Nat → Nat) (pw : Int64) : Prop := lN (nv bv 13 8) = pu_sl (sk bv pw) (nf bv) 13 3 ∧ lN (nv bv (sn bv) 8) = pu_sl (sk bv pw) (nf bv) (sn bv) 4
def gd (bv : Nat → Nat) (pw : Int64) : Prop := gh bv ∧ gs bv pw ∧ pg (sp bv pw) (sn bv)
theorem by_nf {f : Nat → Int32} {bv : Nat → Nat} {m : Nat} (h : by_R f bv m) : pu_eq m f (nf bv) := fun i hi => (h i hi).1
/-- nothing has changed but the cipher's rows, the row, and the vault v -/
def ff_F (v : Nat) (σ σ' : cv_S) : Prop := (∀ k, k ∉ [4, 5, 6, 7, 9] → k ≠ v + 19 → σ'.1 k = σ.1 k) ∧ (∀ k, k ≠ v + 16 → (∀ i, i < 8 → k ≠ 8 * v + i + 25) → σ'.2.1 k = σ.2.1 k) ∧ (∀ k i, (k ≠ v + 13 ∨ i ≠ 3) → k ≠ v + 10 → σ'.2.2.1 k i = σ.2.2.1 k i) ∧ (∀ k i, k ≠ v + 10 → σ'.2.2.2 k i = σ.2.2.2 k i)
