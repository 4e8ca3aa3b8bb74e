/-! 46: the relation between the class and the reference: pure words -/
def CR (σ : cv_S) (dv : Nat → Nat) (op : Int32) (pw kn : Int64) (sa sr : Int32) (rd cnt : Nat) (N : Nat → Int64) (O : Nat → Nat) (V : Nat → Nat → Int64) : Prop := by_R (σ.1 1) dv 600 ∧ σ.2.2.1 0 5 = op ∧ (op = 1 → σ.2.2.2 10 1 = pw ∧ σ.2.2.2 0 6 = kn ∧ σ.2.2.1 10 2 = sa ∧ σ.2.2.1 10 3 = nI rd ∧ σ.2.2.1 10 4 = sr ∧ el_R σ 0 cnt N O V)
def MR (σ : cv_S) (dv : Nat → Nat) (op : Int32) (pw kn : Int64) (sa sr : Int32) (rd cnt : Nat) (N : Nat → Int64) (O : Nat → Nat) (V : Nat → Nat → Int64) : Prop := by_R (σ.1 50) dv 600 ∧ σ.2.2.1 49 2 = op ∧ cnt ≤ 8 ∧ σ.2.2.1 49 8 = nI cnt ∧ (op = 1 → σ.2.2.2 49 3 = pw ∧ σ.2.2.2 49 4 = kn ∧ σ.2.2.1 49 5 = sa ∧ σ.2.2.1 49 6 = nI rd ∧ σ.2.2.1 49 7 = sr ∧ em_R σ cnt N O V)
def so (N : Nat → Int64) (cnt : Nat) : Prop := ∀ i j, i < j → j < cnt → N i < N j
def PR (op : Int32) (rd cnt : Nat) (N : Nat → Int64) : Prop := (op = 0 ∨ op = 1) ∧ (op = 1 → 1 ≤ rd ∧ rd ≤ 40 ∧ so N cnt)
def Rel (σ : cv_S) : Prop := ∃ dv op pw kn sa sr rd cnt N O V, CR σ dv op pw kn sa sr rd cnt N O V ∧ MR σ dv op pw kn sa sr rd cnt N O V ∧ PR op rd cnt N
/-- what the class's half looks at -/
def lo_F (σ τ : cv_S) : Prop := τ.1 1 = σ.1 1 ∧ τ.1 19 = σ.1 19 ∧ (∀ k, (k = 16 ∨ (25 ≤ k ∧ k < 33)) → τ.2.1 k = σ.2.1 k) ∧ (∀ k i, (k = 0 ∨ k = 10 ∨ k = 13) → τ.2.2.1 k i = σ.2.2.1 k i) ∧ (∀ k i, (k = 0 ∨ k = 10) → τ.2.2.2 k i = σ.2.2.2 k i)
theorem lo_F.trans {σ σ' σ'' : cv_S} (h : lo_F σ σ') (h' : lo_F σ' σ'') : lo_F σ σ'' := ⟨h'.1.trans h.1, h'.2.1.trans h.2.1, fun k a => (h'.2.2.1 k a).trans (h.2.2.1 k a), fun k i a => (h'.2.2.2.1 k i a).trans (h.2.2.2.1 k i a), fun k i a => (h'.2.2.2.2 k i a).trans (h.2.2.2.2 k i a)⟩
theorem lo_md {σ τ : cv_S} (h : md_F σ τ) : lo_F σ τ := ⟨(h 1 (by decide)).1, (h 19 (by decide)).1, fun k a => (h k (by omega)).2.1, fun k i a => by rw [(h k (by omega)).2.2.1], fun k i a => by rw [(h k (by omega)).2.2.2]⟩
theorem lo_ng {σ τ : cv_S} (h : ng_F σ τ) : lo_F σ τ := ⟨h.1 1 (by decide), h.1 19 (by decide), fun k a => h.2.1 k (by omega), fun k i a => h.2.2.1 k i (by simp; omega), fun k i a => h.2.2.2 k i (by simp; omega)⟩
theorem lo_out {σ : cv_S} {g : Nat → Int64} : lo_F σ (cv_uJ σ 59 g) := ⟨rfl, rfl, fun k a => if_neg (by omega), fun _ _ _ => rfl, fun _ _ _ => rfl⟩
theorem el_lo {σ τ : cv_S} {cnt : Nat} {N : Nat → Int64} {O : Nat → Nat} {V : Nat → Nat → Int64} (h : lo_F σ τ) (hR : el_R σ 0 cnt N O V) : el_R τ 0 cnt N O V := by
  obtain ⟨q1, q2, q3⟩ := hR
  refine ⟨by rw [h.2.2.2.1 _ _ (by decide)]; exact q1, q2, fun i hi => ?_⟩
  rw [h.2.2.1 (0 + 16) (by decide), h.2.1, h.2.2.1 (8 * 0 + i + 25) (by omega)]
  exact q3 i hi
theorem CR.lo {σ τ : cv_S} {dv : Nat → Nat} {op : Int32} {pw kn : Int64} {sa sr : Int32} {rd cnt : Nat} {N : Nat → Int64} {O : Nat → Nat} {V : Nat → Nat → Int64} (h : lo_F σ τ) (c : CR σ dv op pw kn sa sr rd cnt N O V) : CR τ dv op pw kn sa sr rd cnt N O V := by
  refine ⟨by rw [h.1]; exact c.1, by rw [h.2.2.2.1 _ _ (by decide)]; exact c.2.1, fun o => ?_⟩
  obtain ⟨q1, q2, q3, q4, q5, q6⟩ := c.2.2 o
  exact ⟨by rw [h.2.2.2.2 _ _ (by decide)]; exact q1, by rw [h.2.2.2.2 _ _ (by decide)]; exact q2, by rw [h.2.2.2.1 _ _ (by decide)]; exact q3, by rw [h.2.2.2.1 _ _ (by decide)]; exact q4, by rw [h.2.2.2.1 _ _ (by decide)]; exact q5, el_lo h q6⟩
/-- what the reference's half looks at -/
def hi_F (σ τ : cv_S) : Prop := τ.1 50 = σ.1 50 ∧ τ.1 52 = σ.1 52 ∧ τ.2.1 51 = σ.2.1 51 ∧ τ.2.1 53 = σ.2.1 53 ∧ (∀ i, i ≠ 0 → i ≠ 17 → τ.2.2.1 49 i = σ.2.2.1 49 i) ∧ (∀ i, τ.2.2.2 49 i = σ.2.2.2 49 i)
theorem hi_F.trans {σ σ' σ'' : cv_S} (h : hi_F σ σ') (h' : hi_F σ' σ'') : hi_F σ σ'' := ⟨h'.1.trans h.1, h'.2.1.trans h.2.1, h'.2.2.1.trans h.2.2.1, h'.2.2.2.1.trans h.2.2.2.1, fun i a b => (h'.2.2.2.2.1 i a b).trans (h.2.2.2.2.1 i a b), fun i => (h'.2.2.2.2.2 i).trans (h.2.2.2.2.2 i)⟩
theorem hi_cl {σ τ : cv_S} (h : cl_F σ τ) : hi_F σ τ := ⟨(h 50 (by decide)).1, (h 52 (by decide)).1, (h 51 (by decide)).2.1, (h 53 (by decide)).2.1, fun i _ _ => by rw [(h 49 (by decide)).2.2.1], fun i => by rw [(h 49 (by decide)).2.2.2]⟩
theorem hi_out {σ : cv_S} {g : Nat → Int64} : hi_F σ (cv_uJ σ 59 g) := ⟨rfl, rfl, rfl, rfl, fun _ _ _ => rfl, fun _ => rfl⟩
theorem hi_u0 {σ : cv_S} {x : Int32} : hi_F σ (cv_uF σ 49 0 x) := ⟨rfl, rfl, rfl, rfl, fun i a _ => by rw [cv_F3, if_pos rfl, if_neg a], fun _ => rfl⟩
theorem hi_fr {σ τ : cv_S} (h : cv_fr [54, 55, 56, 57, 58] σ τ) : hi_F σ τ := ⟨h.1 50 (by decide), h.1 52 (by decide), by rw [h.2], by rw [h.2], fun _ _ _ => by rw [h.2], fun _ => by rw [h.2]⟩
theorem em_hi {σ τ : cv_S} {cnt : Nat} {N : Nat → Int64} {O : Nat → Nat} {V : Nat → Nat → Int64} (h : hi_F σ τ) (hR : em_R σ cnt N O V) : em_R τ cnt N O V := by
  obtain ⟨q1, q2, q3⟩ := hR
  refine ⟨by rw [h.2.2.2.2.1 _ (by decide) (by decide)]; exact q1, q2, fun i hi => ?_⟩
  rw [h.2.2.1, h.2.1, h.2.2.2.1]
  exact q3 i hi
theorem MR.hi {σ τ : cv_S} {dv : Nat → Nat} {op : Int32} {pw kn : Int64} {sa sr : Int32} {rd cnt : Nat} {N : Nat → Int64} {O : Nat → Nat} {V : Nat → Nat → Int64} (h : hi_F σ τ) (c : MR σ dv op pw kn sa sr rd cnt N O V) : MR τ dv op pw kn sa sr rd cnt N O V := by
  refine ⟨by rw [h.1]; exact c.1, by rw [h.2.2.2.2.1 _ (by decide) (by decide)]; exact c.2.1, c.2.2.1, by rw [h.2.2.2.2.1 _ (by decide) (by decide)]; exact c.2.2.2.1, fun o => ?_⟩
  obtain ⟨q1, q2, q3, q4, q5, q6⟩ := c.2.2.2.2 o
  exact ⟨by rw [h.2.2.2.2.2]; exact q1, by rw [h.2.2.2.2.2]; exact q2, by rw [h.2.2.2.2.1 _ (by decide) (by decide)]; exact q3, by rw [h.2.2.2.2.1 _ (by decide) (by decide)]; exact q4, by rw [h.2.2.2.2.1 _ (by decide) (by decide)]; exact q5, em_hi h q6⟩
/-- the end of a call: what was thrown, what was answered, the relation -/
def ST (k : Int32) (out : Int64) (τ : cv_S) : Prop := τ.2.2.1 49 0 = k ∧ (k = 0 → τ.2.1 59 0 = out) ∧ Rel τ
theorem u0_at (σ : cv_S) (x : Int32) : (cv_uF σ 49 0 x).2.2.1 49 0 = x := by rw [cv_F3, if_pos rfl, if_pos rfl]
theorem out_at (σ : cv_S) (x : Int64) : (cv_uJ σ 59 (vp_updL (σ.2.1 59) 0 x)).2.1 59 0 = x := rfl
section RELS
variable {σ σ1 τ : cv_S} {dv : Nat → Nat} {op : Int32} {pw kn : Int64} {sa sr : Int32} {rd cnt : Nat} {N : Nat → Int64} {O : Nat → Nat} {V : Nat → Nat → Int64}
/-- the class's half unchanged, the reference's half unchanged but what was thrown -/
theorem Rel.keep (c : CR σ dv op pw kn sa sr rd cnt N O V) (m : MR σ dv op pw kn sa sr rd cnt N O V) (p : PR op rd cnt N) (h1 : lo_F σ τ) (h2 : hi_F σ τ) : Rel τ := ⟨dv, op, pw, kn, sa, sr, rd, cnt, N, O, V, c.lo h1, m.hi h2, p⟩
theorem Rel.mk2 (c : CR σ1 dv op pw kn sa sr rd cnt N O V) (hm : md_F σ1 τ) (m : MR τ dv op pw kn sa sr rd cnt N O V) (p : PR op rd cnt N) : Rel τ := ⟨dv, op, pw, kn, sa, sr, rd, cnt, N, O, V, c.lo (lo_md hm), m, p⟩
theorem so_pg {bv : Nat → Nat} {en : Nat} (h : pg bv en) : so (pN bv) (bv 21) := by
  intro i j hij
  induction j with
  | zero => intro; omega
  | succ j ih =>
    intro hj
    have h1 := (h.2.2.1 (j + 1) hj).2.2.2
    rcases h1 with z | z
    · omega
    · rw [Nat.add_sub_cancel] at z
      rcases Nat.lt_or_ge i j with q | q
      · exact Int64.lt_trans (ih q (by omega)) z
      · rw [show i = j by omega]; exact z
theorem so_le (h : so N cnt) {i j : Nat} (hij : i ≤ j) (hj : j < cnt) : N i ≤ N j := by
  rcases Nat.lt_or_ge i j with q | q
  · exact Int64.le_of_lt (h i j q hj)
  · rw [show i = j by omega]; exact Int64.le_refl _
theorem fy_one (h : so N cnt) {nm : Int64} {a a' : Nat} (y : fnY N cnt nm a) (y' : fdY N cnt nm a') : a = a' := by
  rcases Nat.lt_trichotomy a a' with q | q | q
  · have := h a a' q y'.1; rw [y.2.1, y'.2.1] at this; exact absurd this (Int64.lt_irrefl)
  · exact q
  · have := h a' a q y.1; rw [y.2.1, y'.2.1] at this; exact absurd this (Int64.lt_irrefl)
theorem fy_n (h : so N cnt) {nm : Int64} {a a' : Nat} (y : fnY N cnt nm a) (n : fdN N cnt nm a') : False := by
  rcases Nat.lt_trichotomy a a' with q | q | q
  · have := n.2.1 a q; rw [y.2.1] at this; exact absurd this (Int64.lt_irrefl)
  · subst q; exact (n.2.2 y.1).2 y.2.1
  · have h1 := h a' a q y.1; rw [y.2.1] at h1; exact (n.2.2 (Nat.lt_trans q y.1)).1 h1
theorem fn_y {nm : Int64} {a : Nat} (n : fnN N cnt nm) (y : fdY N cnt nm a) : False := n a y.1 y.2.1
theorem in_one (h : so N cnt) {nm : Int64} {a a' : Nat} (ha : a ≤ cnt) (h1 : ∀ j, a ≤ j → j < cnt → nm < N j) (h2 : a = 0 ∨ ¬ nm < N (a - 1)) (n : fdN N cnt nm a') : a = a' := by
  rcases Nat.lt_trichotomy a a' with q | q | q
  · have h3 := h1 a (Nat.le_refl _) (by have := n.1; omega)
    exact absurd (n.2.1 a q) (Int64.not_lt.mpr (Int64.le_of_lt h3))
  · exact q
  · rcases h2 with z | z
    · omega
    · have h3 := n.2.2 (by omega)
      have h4 : N a' ≤ N (a - 1) := so_le h (by omega) (by omega)
      have h5 : N a' ≤ nm := Int64.le_trans h4 (Int64.not_lt.mp z)
      have h6 : nm ≤ N a' := Int64.not_lt.mp h3.1
      exact absurd (Int64.le_antisymm h5 h6) h3.2
theorem so_ins (h : so N cnt) {nm : Int64} {a : Nat} (h1 : ∀ j, a ≤ j → j < cnt → nm < N j) (n : fdN N cnt nm a) : so (li_ins N a nm) (cnt + 1) := by
  intro i j hij hj
  have ha := n.1
  unfold li_ins
  by_cases c1 : i < a
  · rw [if_pos c1]
    by_cases c2 : j < a
    · rw [if_pos c2]; exact h i j hij (by omega)
    · rw [if_neg c2]
      by_cases c3 : j = a
      · rw [if_pos c3]; exact n.2.1 i c1
      · rw [if_neg c3]; exact h i (j - 1) (by omega) (by omega)
  · rw [if_neg c1, if_neg (show ¬ j < a by omega), if_neg (show ¬ j = a by omega)]
    by_cases c3 : i = a
    · rw [if_pos c3]; exact h1 (j - 1) (by omega) (by omega)
    · rw [if_neg c3]; exact h (i - 1) (j - 1) (by omega) (by omega)
theorem so_del (h : so N cnt) {a : Nat} : so (li_del N a) (cnt - 1) := by
  intro i j hij hj
  unfold li_del
  by_cases c1 : i < a
  · rw [if_pos c1]
    by_cases c2 : j < a
    · rw [if_pos c2]; exact h i j hij (by omega)
    · rw [if_neg c2]; exact h i (j + 1) (by omega) (by omega)
  · rw [if_neg c1, if_neg (show ¬ j < a by omega)]; exact h (i + 1) (j + 1) (by omega) (by omega)
theorem svA_one {a a' : Nat} (h : svA dv kn a) (h' : svA dv kn a') : a = a' := by
  obtain ⟨r, h1, h2⟩ := h
  obtain ⟨r', h3, h4⟩ := h'
  rw [h2, h4, nwR_one h1 h3]
end RELS
