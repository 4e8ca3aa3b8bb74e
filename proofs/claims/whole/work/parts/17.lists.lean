/-! 17: pure words: lists of entries, and how the class's EntryList of vault v holds one -/
def li_ins {α : Type} (f : Nat → α) (a : Nat) (x : α) : Nat → α := fun j => if j < a then f j else if j = a then x else f (j - 1)
def li_del {α : Type} (f : Nat → α) (a : Nat) : Nat → α := fun j => if j < a then f j else f (j + 1)
/-- vault v's list holds cnt entries: names N, numbers of old values O, values V (of the entry i the places 0 .. O i) -/
def el_R (σ : cv_S) (v cnt : Nat) (N : Nat → Int64) (O : Nat → Nat) (V : Nat → Nat → Int64) : Prop :=
  σ.2.2.1 (v + 13) 3 = nI cnt ∧ cnt ≤ 8 ∧ ∀ i, i < cnt → σ.2.1 (v + 16) i = N i ∧ σ.1 (v + 19) i = nI (O i) ∧ O i ≤ 2 ∧ ∀ k, k ≤ O i → σ.2.1 (8 * v + i + 25) k = V i k
/-- nothing but vault v's list has changed -/
def el_F (v : Nat) (σ σ' : cv_S) : Prop := (∀ k, k ≠ v + 19 → σ'.1 k = σ.1 k) ∧ (∀ k, k ≠ v + 16 → (∀ i, i < 8 → k ≠ 8 * v + i + 25) → σ'.2.1 k = σ.2.1 k) ∧ (∀ k i, (k ≠ v + 13 ∨ i ≠ 3) → σ'.2.2.1 k i = σ.2.2.1 k i) ∧ σ'.2.2.2 = σ.2.2.2
theorem el_F.rf {v : Nat} {σ : cv_S} : el_F v σ σ := ⟨fun _ _ => rfl, fun _ _ _ => rfl, fun _ _ _ => rfl, rfl⟩
theorem el_F.trans {v : Nat} {σ σ' σ'' : cv_S} (h : el_F v σ σ') (h' : el_F v σ' σ'') : el_F v σ σ'' := ⟨fun k hk => (h'.1 k hk).trans (h.1 k hk), fun k h1 h2 => (h'.2.1 k h1 h2).trans (h.2.1 k h1 h2), fun k i hk => (h'.2.2.1 k i hk).trans (h.2.2.1 k i hk), h'.2.2.2.trans h.2.2.2⟩
/-- the entry j of vault v in σ' is the entry i of vault w in σ, all three values -/
def el_E (σ' : cv_S) (v j : Nat) (σ : cv_S) (w i : Nat) : Prop := σ'.2.1 (v + 16) j = σ.2.1 (w + 16) i ∧ σ'.1 (v + 19) j = σ.1 (w + 19) i ∧ ∀ k, k < 3 → σ'.2.1 (8 * v + j + 25) k = σ.2.1 (8 * w + i + 25) k
theorem el_E.rf {σ : cv_S} {v j : Nat} : el_E σ v j σ v j := ⟨rfl, rfl, fun _ _ => rfl⟩
theorem el_E.trans {σ σ' σ'' : cv_S} {u v w i j k : Nat} (h : el_E σ u i σ' v j) (h' : el_E σ' v j σ'' w k) : el_E σ u i σ'' w k := ⟨h.1.trans h'.1, h.2.1.trans h'.2.1, fun q hq => (h.2.2 q hq).trans (h'.2.2 q hq)⟩
/-- what copyEntry does -/
def el_C (σ σ' : cv_S) (v w i j : Nat) : Prop := el_E σ' v j σ w i ∧ (∀ q, q < 8 → q ≠ j → el_E σ' v q σ v q) ∧ el_F v σ σ' ∧ σ'.2.2 = σ.2.2
theorem el_Fw {v w : Nat} {σ σ' : cv_S} (h : el_F v σ σ') (hv : v < 3) (hw : w < 3) (hvw : v ≠ w) {i : Nat} (hi : i < 8) : el_E σ' w i σ w i :=
  ⟨by rw [h.2.1 (w + 16) (by omega) (fun q hq => by omega)], by rw [h.1 (w + 19) (by omega)], fun k _ => by rw [h.2.1 (8 * w + i + 25) (by omega) (fun q hq => by omega)]⟩
theorem el_E.R {σ σ' : cv_S} {v w i j : Nat} {N : Int64} {O : Nat} {V : Nat → Int64} (h : el_E σ' v j σ w i) (hr : σ.2.1 (w + 16) i = N ∧ σ.1 (w + 19) i = nI O ∧ O ≤ 2 ∧ ∀ k, k ≤ O → σ.2.1 (8 * w + i + 25) k = V k) : σ'.2.1 (v + 16) j = N ∧ σ'.1 (v + 19) j = nI O ∧ O ≤ 2 ∧ ∀ k, k ≤ O → σ'.2.1 (8 * v + j + 25) k = V k :=
  ⟨h.1.trans hr.1, h.2.1.trans hr.2.1, hr.2.2.1, fun k hk => (h.2.2 k (by have := hr.2.2.1; omega)).trans (hr.2.2.2 k hk)⟩
theorem lg_eq0 {x y : Int64} : lg_cmp x y = 0 ↔ x = y := by
  unfold lg_cmp
  by_cases h : x > y
  · rw [if_pos h]
    exact ⟨fun q => absurd q (by decide), fun q => absurd h (by rw [q]; exact fun q9 => Int64.lt_irrefl q9)⟩
  · rw [if_neg h]
    by_cases h2 : x = y
    · rw [if_pos h2]; exact ⟨fun _ => h2, fun _ => rfl⟩
    · rw [if_neg h2]; exact ⟨fun q => absurd q (by decide), fun q => absurd q h2⟩
theorem lg_gt0 {x y : Int64} : ¬ lg_cmp x y ≤ 0 ↔ y < x := by
  unfold lg_cmp
  by_cases h : x > y
  · rw [if_pos h]
    exact ⟨fun _ => h, fun _ => by decide⟩
  · rw [if_neg h]
    by_cases h2 : x = y
    · rw [if_pos h2]; exact ⟨fun q => absurd (by decide) q, fun q => absurd q h⟩
    · rw [if_neg h2]; exact ⟨fun q => absurd (by decide) q, fun q => absurd q h⟩
theorem lg_lt0 {x y : Int64} : lg_cmp x y < 0 ↔ x < y := by
  unfold lg_cmp
  by_cases h : x > y
  · rw [if_pos h]
    exact ⟨fun q => absurd q (by decide), fun q => absurd (Int64.lt_trans q h) (fun q9 => Int64.lt_irrefl q9)⟩
  · rw [if_neg h]
    by_cases h2 : x = y
    · rw [if_pos h2]; exact ⟨fun q => absurd q (by decide), fun q => absurd q (by rw [h2]; exact fun q9 => Int64.lt_irrefl q9)⟩
    · rw [if_neg h2]
      refine ⟨fun _ => ?_, fun _ => by decide⟩
      rw [Int64.lt_iff_toInt_lt]
      have h3 : ¬ y.toInt < x.toInt := fun q => h (Int64.lt_iff_toInt_lt.mpr q)
      have h4 : x.toInt ≠ y.toInt := fun q => h2 (Int64.toInt_inj.mp q)
      omega
