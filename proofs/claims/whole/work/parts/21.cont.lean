/-! 21: pure words: a row that holds a list of bytes; contents, written and read -/
/-- the row holds the bytes l from a on -/
def rh (f : Nat → Int32) (a : Nat) (l : List Nat) : Prop := ∀ j, j < l.length → f (a + j) = nI (l.getD j 0) ∧ l.getD j 0 < 256
/-- n bytes of a number -/
def byl (x : Int64) (n : Nat) : List Nat := (List.range n).map (lb x)
theorem byl_len (x : Int64) (n : Nat) : (byl x n).length = n := by unfold byl; rw [List.length_map, List.length_range]
theorem byl_get (x : Int64) {n j : Nat} (h : j < n) : (byl x n).getD j 0 = lb x j := by
  unfold byl
  rw [List.getD_eq_getElem?_getD, List.getElem?_map, List.getElem?_range h]
  rfl
theorem ld_l {l m : List Nat} {j : Nat} (h : j < l.length) : (l ++ m).getD j 0 = l.getD j 0 := by
  rw [List.getD_eq_getElem?_getD, List.getD_eq_getElem?_getD, List.getElem?_append_left h]
theorem ld_r {l m : List Nat} {j : Nat} (h : l.length ≤ j) : (l ++ m).getD j 0 = m.getD (j - l.length) 0 := by
  rw [List.getD_eq_getElem?_getD, List.getD_eq_getElem?_getD, List.getElem?_append_right h]
theorem rh_put {f : Nat → Int32} {a p n : Nat} {l : List Nat} (h : rh f a l) (hp : p = a + l.length) (x : Int64) (hn : n ≤ 8) : rh (pu_put f (pu_byt x) p n) a (l ++ byl x n) := by
  subst hp
  intro j hj
  rw [List.length_append, byl_len] at hj
  by_cases hl : j < l.length
  · rw [pu_put_out (by omega), ld_l hl]; exact h j hl
  · rw [pu_put_in (by omega) (by omega), ld_r (by omega), show a + j - (a + l.length) = j - l.length by omega, byl_get x (by omega)]
    exact ⟨pu_byt_lb x (by omega), lb_lt _ _⟩
theorem rh_upd {f : Nat → Int32} {a p b : Nat} {l : List Nat} {x : Int32} (h : rh f a l) (hp : p = a + l.length) (hx : x = nI b) (hb : b < 256) : rh (upd f p x) a (l ++ [b]) := by
  subst hp
  intro j hj
  rw [List.length_append] at hj
  by_cases hl : j < l.length
  · rw [pk_un (by omega), ld_l hl]; exact h j hl
  · have e : j = l.length := by simp at hj; omega
    rw [e, pk_us, ld_r (Nat.le_refl _), Nat.sub_self]
    exact ⟨hx, hb⟩
theorem rh_nil (f : Nat → Int32) (a : Nat) : rh f a [] := fun j hj => absurd hj (Nat.not_lt_zero j)
theorem rh_cong {f g : Nat → Int32} {a : Nat} {l : List Nat} (h : rh f a l) (e : ∀ j, j < l.length → g (a + j) = f (a + j)) : rh g a l := fun j hj => by rw [e j hj]; exact h j hj
def co_vals (V : Nat → Int64) : Nat → List Nat
  | 0 => []
  | k + 1 => co_vals V k ++ byl (V k) 8
def co_ent (N : Nat → Int64) (O : Nat → Nat) (V : Nat → Nat → Int64) (i : Nat) : List Nat := byl (N i) 8 ++ byl (nI (O i)).toInt64 1 ++ co_vals (V i) (O i + 1)
def co_l (N : Nat → Int64) (O : Nat → Nat) (V : Nat → Nat → Int64) (cnt : Nat) : Nat → List Nat
  | 0 => byl (nI cnt).toInt64 1
  | i + 1 => co_l N O V cnt i ++ co_ent N O V i
theorem co_vals_len (V : Nat → Int64) : ∀ k, (co_vals V k).length = 8 * k
  | 0 => rfl
  | k + 1 => by show (co_vals V k ++ byl (V k) 8).length = _; rw [List.length_append, co_vals_len V k, byl_len]; omega
theorem co_ent_len (N : Nat → Int64) (O : Nat → Nat) (V : Nat → Nat → Int64) (i : Nat) : (co_ent N O V i).length = 17 + 8 * O i := by
  unfold co_ent
  rw [List.length_append, List.length_append, byl_len, byl_len, co_vals_len]; omega
theorem co_l_len (N : Nat → Int64) (O : Nat → Nat) (V : Nat → Nat → Int64) (cnt : Nat) : ∀ i, (co_l N O V cnt i).length = co_sz O i
  | 0 => byl_len _ 1
  | i + 1 => by show (co_l N O V cnt i ++ co_ent N O V i).length = co_sz O i + _; rw [List.length_append, co_l_len N O V cnt i, co_ent_len]
theorem co_vals_cong {V V' : Nat → Int64} : ∀ k, (∀ j, j < k → V j = V' j) → co_vals V k = co_vals V' k
  | 0, _ => rfl
  | k + 1, h => by show co_vals V k ++ byl (V k) 8 = co_vals V' k ++ byl (V' k) 8; rw [co_vals_cong k (fun j hj => h j (by omega)), h k (by omega)]
/-- reading: the place of the entry i; entries as a content has them -/
def ps (bv : Nat → Nat) : Nat → Nat
  | 0 => 22
  | i + 1 => ps bv i + 17 + 8 * bv (ps bv i + 8)
def pN (bv : Nat → Nat) (i : Nat) : Int64 := lN (nv bv (ps bv i) 8)
def pO (bv : Nat → Nat) (i : Nat) : Nat := bv (ps bv i + 8)
def pV (bv : Nat → Nat) (i k : Nat) : Int64 := lN (nv bv (ps bv i + 9 + 8 * k) 8)
/-- the entry i is right, the content ends at en -/
def p1 (bv : Nat → Nat) (en i : Nat) : Prop := ps bv i + 17 ≤ en ∧ pO bv i ≤ 2 ∧ pN bv i ≠ 0 ∧ (i = 0 ∨ pN bv (i - 1) < pN bv i)
def pg (bv : Nat → Nat) (en : Nat) : Prop := 21 < en ∧ bv 21 ≤ 8 ∧ (∀ i, i < bv 21 → p1 bv en i) ∧ ps bv (bv 21) = en
theorem ps_mono (bv : Nat → Nat) {i : Nat} : ∀ {j : Nat}, i ≤ j → ps bv i ≤ ps bv j := by
  intro j h
  induction j with
  | zero => rw [show i = 0 by omega]; exact Nat.le_refl _
  | succ j ih =>
    by_cases hj : i = j + 1
    · rw [hj]; exact Nat.le_refl _
    · have := ih (by omega)
      show _ ≤ ps bv j + 17 + 8 * bv (ps bv j + 8)
      omega
theorem ps_ge (bv : Nat → Nat) (i : Nat) : 22 ≤ ps bv i := ps_mono bv (Nat.zero_le i)
