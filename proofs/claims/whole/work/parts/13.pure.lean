/-! 13: pure words: the cipher, numbers in bytes -/
def pu_rot (x k j : Int32) : Int32 := x <<< (k &&& 31) ||| (x.toUInt32 >>> (j.toUInt32 &&& Int32.toUInt32 31)).toInt32
/-- a stir of four ints -/
def pu_a1 (a b : Int32) : Int32 := a + b
def pu_d1 (a b d : Int32) : Int32 := pu_rot (d ^^^ pu_a1 a b) 16 16
def pu_c1 (a b c d : Int32) : Int32 := c + pu_d1 a b d
def pu_b1 (a b c d : Int32) : Int32 := pu_rot (b ^^^ pu_c1 a b c d) 12 20
def pu_a2 (a b c d : Int32) : Int32 := pu_a1 a b + pu_b1 a b c d
def pu_d2 (a b c d : Int32) : Int32 := pu_rot (pu_d1 a b d ^^^ pu_a2 a b c d) 8 24
def pu_c2 (a b c d : Int32) : Int32 := pu_c1 a b c d + pu_d2 a b c d
def pu_b2 (a b c d : Int32) : Int32 := pu_rot (pu_b1 a b c d ^^^ pu_c2 a b c d) 7 25
def pu_stir (f : Nat → Int32) (a b c d : Nat) : Nat → Int32 :=
  upd (upd (upd (upd f a (pu_a2 (f a) (f b) (f c) (f d))) b (pu_b2 (f a) (f b) (f c) (f d))) c (pu_c2 (f a) (f b) (f c) (f d))) d (pu_d2 (f a) (f b) (f c) (f d))
def pu_h1 (f : Nat → Int32) : Nat → Int32 := pu_stir (pu_stir (pu_stir (pu_stir f 0 4 8 12) 1 5 9 13) 2 6 10 14) 3 7 11 15
def pu_h2 (f : Nat → Int32) : Nat → Int32 := pu_stir (pu_stir (pu_stir (pu_stir f 0 5 10 15) 1 6 11 12) 2 7 8 13) 3 4 9 14
def pu_it : Nat → (Nat → Int32) → Nat → Int32
  | 0, f => f
  | n + 1, f => pu_h2 (pu_h1 (pu_it n f))
def pu_start (k : Nat → Int32) (x y z : Int32) : Nat → Int32 := fun i =>
  if i = 0 then 1634760805 else if i = 1 then 857760878 else if i = 2 then 2036477234 else if i = 3 then 1797285236 else if i < 8 then k (i - 4) else if i < 12 then k (i - 8) else if i = 12 then x else if i = 13 then y else if i = 14 then z else 0
def pu_blk (k : Nat → Int32) (x y z : Int32) : Nat → Int32 := fun i => pu_it 4 (pu_start k x y z) i + pu_start k x y z i
/-- alike in the first n places -/
def pu_eq (n : Nat) (f g : Nat → Int32) : Prop := ∀ i, i < n → f i = g i
theorem pu_eq.rf {n : Nat} {f : Nat → Int32} : pu_eq n f f := fun _ _ => rfl
theorem pu_eq.sy {n : Nat} {f g : Nat → Int32} (h : pu_eq n f g) : pu_eq n g f := fun i hi => (h i hi).symm
theorem pu_eq.tr {n : Nat} {f g k : Nat → Int32} (h : pu_eq n f g) (h' : pu_eq n g k) : pu_eq n f k := fun i hi => (h i hi).trans (h' i hi)
theorem pu_eq.le {n m : Nat} {f g : Nat → Int32} (h : pu_eq n f g) (hm : m ≤ n) : pu_eq m f g := fun i hi => h i (by omega)
theorem pu_upd_eq {n : Nat} {f g : Nat → Int32} (h : pu_eq n f g) (k : Nat) {x y : Int32} (e : x = y) : pu_eq n (upd f k x) (upd g k y) := by
  intro i hi
  unfold upd
  rw [e, h i hi]
theorem pu_stir_eq {n : Nat} {f g : Nat → Int32} (h : pu_eq n f g) {a b c d : Nat} (ha : a < n) (hb : b < n) (hc : c < n) (hd : d < n) : pu_eq n (pu_stir f a b c d) (pu_stir g a b c d) := by
  unfold pu_stir
  rw [h a ha, h b hb, h c hc, h d hd]
  exact pu_upd_eq (pu_upd_eq (pu_upd_eq (pu_upd_eq h a rfl) b rfl) c rfl) d rfl
theorem pu_h1_eq {f g : Nat → Int32} (h : pu_eq 16 f g) : pu_eq 16 (pu_h1 f) (pu_h1 g) := by
  unfold pu_h1
  exact pu_stir_eq (pu_stir_eq (pu_stir_eq (pu_stir_eq h (by decide) (by decide) (by decide) (by decide)) (by decide) (by decide) (by decide) (by decide)) (by decide) (by decide) (by decide) (by decide)) (by decide) (by decide) (by decide) (by decide)
theorem pu_h2_eq {f g : Nat → Int32} (h : pu_eq 16 f g) : pu_eq 16 (pu_h2 f) (pu_h2 g) := by
  unfold pu_h2
  exact pu_stir_eq (pu_stir_eq (pu_stir_eq (pu_stir_eq h (by decide) (by decide) (by decide) (by decide)) (by decide) (by decide) (by decide) (by decide)) (by decide) (by decide) (by decide) (by decide)) (by decide) (by decide) (by decide) (by decide)
theorem pu_it_eq {f g : Nat → Int32} (h : pu_eq 16 f g) : ∀ n, pu_eq 16 (pu_it n f) (pu_it n g)
  | 0 => h
  | n + 1 => pu_h2_eq (pu_h1_eq (pu_it_eq h n))
theorem pu_start_eq {k k' : Nat → Int32} (h : pu_eq 4 k k') (x y z : Int32) : pu_start k x y z = pu_start k' x y z := by
  funext i
  unfold pu_start
  by_cases h1 : i < 8
  · by_cases h2 : i < 4
    · rcases (show i = 0 ∨ i = 1 ∨ i = 2 ∨ i = 3 by omega) with rfl | rfl | rfl | rfl <;> rfl
    · simp only [h1, if_true, h (i - 4) (by omega)]
  · by_cases h2 : i < 12
    · simp only [h1, h2, if_true, if_false, h (i - 8) (by omega)]
    · simp only [h1, h2, if_false]
theorem pu_blk_eq {k k' : Nat → Int32} (h : pu_eq 4 k k') (x y z : Int32) : pu_blk k x y z = pu_blk k' x y z := by
  unfold pu_blk
  rw [pu_start_eq h]
/-- a piece of a row replaced -/
def pu_put (f g : Nat → Int32) (a n : Nat) : Nat → Int32 := fun k => if a ≤ k ∧ k < a + n then g (k - a) else f k
theorem pu_put_0 (f g : Nat → Int32) (a : Nat) : pu_put f g a 0 = f := by
  funext k
  unfold pu_put
  rw [if_neg (by omega)]
theorem pu_put_s (f g : Nat → Int32) (a n : Nat) : upd (pu_put f g a n) (a + n) (g n) = pu_put f g a (n + 1) := by
  funext k
  simp only [pu_put, upd]
  by_cases h : k = a + n
  · rw [if_pos h, if_pos (by omega), h, Nat.add_sub_cancel_left]
  · rw [if_neg h]
    by_cases h2 : a ≤ k ∧ k < a + n
    · rw [if_pos h2, if_pos (by omega)]
    · rw [if_neg h2, if_neg (by omega)]
theorem pu_put_in {f g : Nat → Int32} {a n k : Nat} (h1 : a ≤ k) (h2 : k < a + n) : pu_put f g a n k = g (k - a) := by unfold pu_put; rw [if_pos ⟨h1, h2⟩]
theorem pu_put_out {f g : Nat → Int32} {a n k : Nat} (h : k < a ∨ a + n ≤ k) : pu_put f g a n k = f k := by unfold pu_put; rw [if_neg (by omega)]
/-- a number's byte, and a number out of bytes, as the class has them -/
def pu_byt (v : Int64) (i : Nat) : Int32 := (v.toUInt64 >>> ((8 * nI i : Int32).toInt64.toUInt64 &&& Int64.toUInt64 63)).toInt64.toInt32 &&& 255
def pu_num (f : Nat → Int32) (a : Nat) : Nat → Int64
  | 0 => 0
  | n + 1 => pu_num f a n ||| (f (a + n)).toInt64 <<< ((8 * nI n : Int32).toInt64 &&& 63)
/-- the key of a password -/
def pu_k0 (p : Int64) (s : Int32) : Nat → Int32 := fun i => if i = 0 then p.toInt32 else if i = 1 then (p.toUInt64 >>> ((32 : Int32).toInt64.toUInt64 &&& Int64.toUInt64 63)).toInt64.toInt32 else if i = 2 then s else 0
def pu_key (p : Int64) (s : Int32) : Nat → Nat → Int32
  | 0 => pu_blk (pu_k0 p s) 0 (-1) 1
  | n + 1 => pu_blk (pu_key p s n) (nI n) 0 2
/-- the seal of the first n bytes -/
def pu_word (f : Nat → Int32) (n i : Nat) : Int32 := (pu_num f (4 * i) (min 4 (n - 4 * i))).toInt32
def pu_chain (k f : Nat → Int32) (n : Nat) (z : Int32) : Nat → Nat → Int32
  | 0 => k
  | i + 1 => pu_blk (pu_chain k f n z i) (pu_word f n i) (nI i) z
def pu_seal (k f : Nat → Int32) (n : Nat) (z : Int32) : Nat → Int32 := pu_blk (pu_chain k f n z ((n + 3) / 4)) (nI n) (-1) z
def pu_sl (k f : Nat → Int32) (n : Nat) (z : Int32) : Int64 := (pu_seal k f n z 1).toInt64 <<< ((32 : Int32).toInt64 &&& 63) ||| ((pu_seal k f n z 0).toInt64 &&& 4294967295)
/-- the stream's byte j -/
def pu_strm (k : Nat → Int32) (sr : Int32) (j : Nat) : Int32 := ((pu_blk k (nI (j / 64)) sr 5 (j % 64 / 4)).toUInt32 >>> ((8 * nI (j % 64 % 4) : Int32).toUInt32 &&& Int32.toUInt32 31)).toInt32 &&& 255
