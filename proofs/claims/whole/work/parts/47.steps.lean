/-! 47: a call of both, over the relation: first part -/
theorem hi_F.rf {σ : cv_S} : hi_F σ σ := ⟨rfl, rfl, rfl, rfl, fun _ _ _ => rfl, fun _ => rfl⟩
theorem lo_F.rf {σ : cv_S} : lo_F σ σ := ⟨rfl, rfl, fun _ _ => rfl, fun _ _ _ => rfl, fun _ _ _ => rfl⟩
theorem lo_u0 {σ : cv_S} {x : Int32} : lo_F σ (cv_uF σ 49 0 x) := lo_md md_uF
theorem nI_one {a b : Nat} (h : nI a = nI b) (ha : a < 2 ^ 31) (hb : b < 2 ^ 31) : a = b := by
  rcases Nat.lt_trichotomy a b with q | q | q
  · exact absurd h (fun z => by have := nI_lt q hb; rw [z] at this; exact Int32.lt_irrefl this)
  · exact q
  · exact absurd h (fun z => by have := nI_lt q ha; rw [z] at this; exact Int32.lt_irrefl this)
theorem hi_el {σ τ : cv_S} (h : el_F 0 σ τ) : hi_F σ τ := hi_cl (cl_el (by decide) h)
theorem xor_by {f : Nat → Int32} {dv : Nat → Nat} (h : by_R f dv 600) {j : Nat} (hj : j < 600) (bits : Int32) : by_R (upd f j (f j ^^^ (bits &&& 255))) (fun q => if q = j then dv j ^^^ lb bits.toInt64 0 else dv q) 600 := by
  intro q hq
  by_cases hqj : q = j
  · subst hqj
    show upd f q (f q ^^^ (bits &&& 255)) q = nI (if q = q then _ else _) ∧ (if q = q then _ else _) < 256
    rw [pk_us, if_pos rfl, (h q hq).1, and255 bits, xor_n]
    exact ⟨rfl, xor_lt (h q hq).2 (lb_lt _ _)⟩
  · show upd f j (f j ^^^ (bits &&& 255)) q = nI (if q = j then _ else _) ∧ (if q = j then _ else _) < 256
    rw [pk_un hqj, if_neg hqj]
    exact h q hq

theorem fr_length {σ σ1 : cv_S} {dv : Nat → Nat} {op : Int32} {pw : Int64} {kn : Int64} {sa : Int32} {sr : Int32} {rd : Nat} {cnt : Nat} {N : Nat → Int64} {O : Nat → Nat} {V : Nat → Nat → Int64}  {k : Int32} (hk : (k = 0 ∧ ∃ (r : Int32) (ρ9 : cv_S), (op = 1 ∧ r = nI (29 + co_sz O cnt) ∧ ρ9 = σ) ∧ σ1 = cv_uJ ρ9 59 (vp_updL (ρ9.2.1 59) 0 r.toInt64)) ∨ (k = 1 ∧ ("java/lang/IllegalStateException" = "java/lang/IllegalStateException" ∧ op = 0 ∧ σ1 = σ))) : hi_F σ σ1 := by
  rcases hk with ⟨-, r, ρ9, ⟨h1, h2, rfl⟩, rfl⟩ | ⟨-, -, h1, rfl⟩
  · exact hi_out
  · exact hi_F.rf

theorem st_length {σ σ1 τ : cv_S} {dv : Nat → Nat} {op : Int32} {pw : Int64} {kn : Int64} {sa : Int32} {sr : Int32} {rd : Nat} {cnt : Nat} {N : Nat → Int64} {O : Nat → Nat} {V : Nat → Nat → Int64}  {r2 : Int32} {k : Int32} (C : CR σ dv op pw kn sa sr rd cnt N O V) (M : MR σ dv op pw kn sa sr rd cnt N O V) (P : PR op rd cnt N) (hk : (k = 0 ∧ ∃ (r : Int32) (ρ9 : cv_S), (op = 1 ∧ r = nI (29 + co_sz O cnt) ∧ ρ9 = σ) ∧ σ1 = cv_uJ ρ9 59 (vp_updL (ρ9.2.1 59) 0 r.toInt64)) ∨ (k = 1 ∧ ("java/lang/IllegalStateException" = "java/lang/IllegalStateException" ∧ op = 0 ∧ σ1 = σ))) (hm : (σ1.2.2.1 49 2 = 0 ∧ τ = cv_uF σ1 49 0 1) ∨ (σ1.2.2.1 49 2 = 1 ∧ τ = cv_uF σ1 49 0 0 ∧ r2 = nI (29 + co_sz O cnt))) : ST k r2.toInt64 τ := by
  rcases hk with ⟨rfl, r, ρ9, ⟨h1, h2, rfl⟩, rfl⟩ | ⟨rfl, -, h1, rfl⟩
  · rcases hm with ⟨z, _⟩ | ⟨z, rfl, h3⟩
    · exact absurd (h1.symm.trans (M.2.1.symm.trans z)) (by decide)
    · exact ⟨u0_at _ _, fun _ => (congrArg Int32.toInt64 h2).trans (congrArg Int32.toInt64 h3).symm, Rel.keep C M P (lo_out.trans lo_u0) (hi_out.trans hi_u0)⟩
  · rcases hm with ⟨z, rfl⟩ | ⟨z, _⟩
    · exact ⟨u0_at _ _, fun z => absurd z (by decide), Rel.keep C M P lo_u0 hi_u0⟩
    · exact absurd (h1.symm.trans (M.2.1.symm.trans z)) (by decide)

theorem fr_serial {σ σ1 : cv_S} {dv : Nat → Nat} {op : Int32} {pw : Int64} {kn : Int64} {sa : Int32} {sr : Int32} {rd : Nat} {cnt : Nat} {N : Nat → Int64} {O : Nat → Nat} {V : Nat → Nat → Int64}  {k : Int32} (hk : (k = 0 ∧ ∃ (r : Int32) (ρ9 : cv_S), (op = 1 ∧ r = σ.2.2.1 10 4 ∧ ρ9 = σ) ∧ σ1 = cv_uJ ρ9 59 (vp_updL (ρ9.2.1 59) 0 r.toInt64)) ∨ (k = 1 ∧ ("java/lang/IllegalStateException" = "java/lang/IllegalStateException" ∧ op = 0 ∧ σ1 = σ))) : hi_F σ σ1 := by
  rcases hk with ⟨-, r, ρ9, ⟨h1, h2, rfl⟩, rfl⟩ | ⟨-, -, h1, rfl⟩
  · exact hi_out
  · exact hi_F.rf

theorem st_serial {σ σ1 τ : cv_S} {dv : Nat → Nat} {op : Int32} {pw : Int64} {kn : Int64} {sa : Int32} {sr : Int32} {rd : Nat} {cnt : Nat} {N : Nat → Int64} {O : Nat → Nat} {V : Nat → Nat → Int64}  {r2 : Int32} {k : Int32} (C : CR σ dv op pw kn sa sr rd cnt N O V) (M : MR σ dv op pw kn sa sr rd cnt N O V) (P : PR op rd cnt N) (hk : (k = 0 ∧ ∃ (r : Int32) (ρ9 : cv_S), (op = 1 ∧ r = σ.2.2.1 10 4 ∧ ρ9 = σ) ∧ σ1 = cv_uJ ρ9 59 (vp_updL (ρ9.2.1 59) 0 r.toInt64)) ∨ (k = 1 ∧ ("java/lang/IllegalStateException" = "java/lang/IllegalStateException" ∧ op = 0 ∧ σ1 = σ))) (hm : (σ1.2.2.1 49 2 = 0 ∧ τ = cv_uF σ1 49 0 1) ∨ (σ1.2.2.1 49 2 = 1 ∧ τ = cv_uF σ1 49 0 0 ∧ r2 = σ1.2.2.1 49 7)) : ST k r2.toInt64 τ := by
  rcases hk with ⟨rfl, r, ρ9, ⟨h1, h2, rfl⟩, rfl⟩ | ⟨rfl, -, h1, rfl⟩
  · rcases hm with ⟨z, _⟩ | ⟨z, rfl, h3⟩
    · exact absurd (h1.symm.trans (M.2.1.symm.trans z)) (by decide)
    · exact ⟨u0_at _ _, fun _ => congrArg Int32.toInt64 ((h2.trans (C.2.2 h1).2.2.2.2.1).trans (h3.trans (M.2.2.2.2 h1).2.2.2.2.1).symm), Rel.keep C M P (lo_out.trans lo_u0) (hi_out.trans hi_u0)⟩
  · rcases hm with ⟨z, rfl⟩ | ⟨z, _⟩
    · exact ⟨u0_at _ _, fun z => absurd z (by decide), Rel.keep C M P lo_u0 hi_u0⟩
    · exact absurd (h1.symm.trans (M.2.1.symm.trans z)) (by decide)

theorem fr_entries {σ σ1 : cv_S} {dv : Nat → Nat} {op : Int32} {pw : Int64} {kn : Int64} {sa : Int32} {sr : Int32} {rd : Nat} {cnt : Nat} {N : Nat → Int64} {O : Nat → Nat} {V : Nat → Nat → Int64}  {k : Int32} (hk : (k = 0 ∧ ∃ (r : Int32) (ρ9 : cv_S), (op = 1 ∧ r = σ.2.2.1 13 3 ∧ ρ9 = σ) ∧ σ1 = cv_uJ ρ9 59 (vp_updL (ρ9.2.1 59) 0 r.toInt64)) ∨ (k = 1 ∧ ("java/lang/IllegalStateException" = "java/lang/IllegalStateException" ∧ op = 0 ∧ σ1 = σ))) : hi_F σ σ1 := by
  rcases hk with ⟨-, r, ρ9, ⟨h1, h2, rfl⟩, rfl⟩ | ⟨-, -, h1, rfl⟩
  · exact hi_out
  · exact hi_F.rf

theorem st_entries {σ σ1 τ : cv_S} {dv : Nat → Nat} {op : Int32} {pw : Int64} {kn : Int64} {sa : Int32} {sr : Int32} {rd : Nat} {cnt : Nat} {N : Nat → Int64} {O : Nat → Nat} {V : Nat → Nat → Int64}  {r2 : Int32} {k : Int32} (C : CR σ dv op pw kn sa sr rd cnt N O V) (M : MR σ dv op pw kn sa sr rd cnt N O V) (P : PR op rd cnt N) (hk : (k = 0 ∧ ∃ (r : Int32) (ρ9 : cv_S), (op = 1 ∧ r = σ.2.2.1 13 3 ∧ ρ9 = σ) ∧ σ1 = cv_uJ ρ9 59 (vp_updL (ρ9.2.1 59) 0 r.toInt64)) ∨ (k = 1 ∧ ("java/lang/IllegalStateException" = "java/lang/IllegalStateException" ∧ op = 0 ∧ σ1 = σ))) (hm : (σ1.2.2.1 49 2 = 0 ∧ τ = cv_uF σ1 49 0 1) ∨ (σ1.2.2.1 49 2 = 1 ∧ τ = cv_uF σ1 49 0 0 ∧ r2 = σ1.2.2.1 49 8)) : ST k r2.toInt64 τ := by
  rcases hk with ⟨rfl, r, ρ9, ⟨h1, h2, rfl⟩, rfl⟩ | ⟨rfl, -, h1, rfl⟩
  · rcases hm with ⟨z, _⟩ | ⟨z, rfl, h3⟩
    · exact absurd (h1.symm.trans (M.2.1.symm.trans z)) (by decide)
    · exact ⟨u0_at _ _, fun _ => congrArg Int32.toInt64 ((h2.trans (C.2.2 h1).2.2.2.2.2.1).trans (h3.trans M.2.2.2.1).symm), Rel.keep C M P (lo_out.trans lo_u0) (hi_out.trans hi_u0)⟩
  · rcases hm with ⟨z, rfl⟩ | ⟨z, _⟩
    · exact ⟨u0_at _ _, fun z => absurd z (by decide), Rel.keep C M P lo_u0 hi_u0⟩
    · exact absurd (h1.symm.trans (M.2.1.symm.trans z)) (by decide)

theorem fr_name {σ σ1 : cv_S} {dv : Nat → Nat} {op : Int32} {pw : Int64} {kn : Int64} {sa : Int32} {sr : Int32} {rd : Nat} {cnt : Nat} {N : Nat → Int64} {O : Nat → Nat} {V : Nat → Nat → Int64} {i : Int32} {k : Int32} (hk : (k = 0 ∧ ∃ (r : Int64) (ρ9 : cv_S), (op = 1 ∧ (∃ j, j < cnt ∧ i = nI j ∧ r = N j) ∧ ρ9 = σ) ∧ σ1 = cv_uJ ρ9 59 (vp_updL (ρ9.2.1 59) 0 r)) ∨ (k = 1 ∧ (("java/lang/IllegalStateException" = "java/lang/IllegalStateException" ∧ op = 0 ∧ σ1 = σ) ∨ ("java/lang/IllegalStateException" = "java/lang/IndexOutOfBoundsException" ∧ op = 1 ∧ (i < 0 ∨ nI cnt ≤ i) ∧ σ1 = σ))) ∨ (k = 2 ∧ (("java/lang/IndexOutOfBoundsException" = "java/lang/IllegalStateException" ∧ op = 0 ∧ σ1 = σ) ∨ ("java/lang/IndexOutOfBoundsException" = "java/lang/IndexOutOfBoundsException" ∧ op = 1 ∧ (i < 0 ∨ nI cnt ≤ i) ∧ σ1 = σ)))) : hi_F σ σ1 := by
  rcases hk with ⟨-, r, ρ9, ⟨h1, -, rfl⟩, rfl⟩ | ⟨-, h⟩ | ⟨-, h⟩
  · exact hi_out
  · rcases h with ⟨-, -, rfl⟩ | ⟨-, -, -, rfl⟩ <;> exact hi_F.rf
  · rcases h with ⟨-, -, rfl⟩ | ⟨-, -, -, rfl⟩ <;> exact hi_F.rf

theorem st_name {σ σ1 τ : cv_S} {dv : Nat → Nat} {op : Int32} {pw : Int64} {kn : Int64} {sa : Int32} {sr : Int32} {rd : Nat} {cnt : Nat} {N : Nat → Int64} {O : Nat → Nat} {V : Nat → Nat → Int64} {i : Int32} {r2 : Int64} {k : Int32} (C : CR σ dv op pw kn sa sr rd cnt N O V) (M : MR σ dv op pw kn sa sr rd cnt N O V) (P : PR op rd cnt N) (hk : (k = 0 ∧ ∃ (r : Int64) (ρ9 : cv_S), (op = 1 ∧ (∃ j, j < cnt ∧ i = nI j ∧ r = N j) ∧ ρ9 = σ) ∧ σ1 = cv_uJ ρ9 59 (vp_updL (ρ9.2.1 59) 0 r)) ∨ (k = 1 ∧ (("java/lang/IllegalStateException" = "java/lang/IllegalStateException" ∧ op = 0 ∧ σ1 = σ) ∨ ("java/lang/IllegalStateException" = "java/lang/IndexOutOfBoundsException" ∧ op = 1 ∧ (i < 0 ∨ nI cnt ≤ i) ∧ σ1 = σ))) ∨ (k = 2 ∧ (("java/lang/IndexOutOfBoundsException" = "java/lang/IllegalStateException" ∧ op = 0 ∧ σ1 = σ) ∨ ("java/lang/IndexOutOfBoundsException" = "java/lang/IndexOutOfBoundsException" ∧ op = 1 ∧ (i < 0 ∨ nI cnt ≤ i) ∧ σ1 = σ)))) (hm : (σ1.2.2.1 49 2 = 0 ∧ τ = cv_uF σ1 49 0 1) ∨ (σ1.2.2.1 49 2 = 1 ∧ (i < 0 ∨ nI cnt ≤ i) ∧ τ = cv_uF σ1 49 0 2) ∨ (σ1.2.2.1 49 2 = 1 ∧ τ = cv_uF σ1 49 0 0 ∧ ∃ j, j < cnt ∧ i = nI j ∧ r2 = σ1.2.1 51 j)) : ST k r2 τ := by
  rcases hk with ⟨rfl, r, ρ9, ⟨h1, ⟨j, hj, hij, h2⟩, rfl⟩, rfl⟩ | ⟨rfl, h⟩ | ⟨rfl, h⟩
  · rcases hm with ⟨z, _⟩ | ⟨z, z1, _⟩ | ⟨z, rfl, j', hj', hij', h3⟩
    · exact absurd (h1.symm.trans (M.2.1.symm.trans z)) (by decide)
    · exfalso
      have hc := M.2.2.1
      rw [hij] at z1
      rcases z1 with z1 | z1
      · exact nI_nlt (Nat.zero_le _) (by omega) z1
      · exact nI_ge hj (by omega) z1
    · have hc := M.2.2.1
      have e : j = j' := nI_one (hij.symm.trans hij') (by omega) (by omega)
      subst e
      exact ⟨u0_at _ _, fun _ => h2.trans (h3.trans (((M.2.2.2.2 h1).2.2.2.2.2.2.2 j hj).1)).symm, Rel.keep C M P (lo_out.trans lo_u0) (hi_out.trans hi_u0)⟩
  · rcases h with ⟨-, h1, rfl⟩ | ⟨n, -⟩
    · rcases hm with ⟨z, rfl⟩ | ⟨z, _⟩ | ⟨z, _⟩
      · exact ⟨u0_at _ _, fun z => absurd z (by decide), Rel.keep C M P lo_u0 hi_u0⟩
      · exact absurd (h1.symm.trans (M.2.1.symm.trans z)) (by decide)
      · exact absurd (h1.symm.trans (M.2.1.symm.trans z)) (by decide)
    · exact absurd n (by decide)
  · rcases h with ⟨n, -⟩ | ⟨-, h1, h2, rfl⟩
    · exact absurd n (by decide)
    · rcases hm with ⟨z, _⟩ | ⟨z, _, rfl⟩ | ⟨z, _, j', hj', hij', h3⟩
      · exact absurd (h1.symm.trans (M.2.1.symm.trans z)) (by decide)
      · exact ⟨u0_at _ _, fun z => absurd z (by decide), Rel.keep C M P lo_u0 hi_u0⟩
      · exfalso
        have hc := M.2.2.1
        rw [hij'] at h2
        rcases h2 with z1 | z1
        · exact nI_nlt (Nat.zero_le _) (by omega) z1
        · exact nI_ge hj' (by omega) z1

theorem fr_disk {σ σ1 : cv_S} {dv : Nat → Nat} {op : Int32} {pw : Int64} {kn : Int64} {sa : Int32} {sr : Int32} {rd : Nat} {cnt : Nat} {N : Nat → Int64} {O : Nat → Nat} {V : Nat → Nat → Int64} {i : Int32} {k : Int32} (hk : (k = 0 ∧ ∃ (r : Int32) (ρ9 : cv_S), ((∃ j, j < 600 ∧ i = nI j ∧ r = σ.1 1 j) ∧ ρ9 = σ) ∧ σ1 = cv_uJ ρ9 59 (vp_updL (ρ9.2.1 59) 0 r.toInt64)) ∨ (k = 1 ∧ ("java/lang/IndexOutOfBoundsException" = "java/lang/IndexOutOfBoundsException" ∧ (i < 0 ∨ nI 600 ≤ i) ∧ σ1 = σ))) : hi_F σ σ1 := by
  rcases hk with ⟨-, r, ρ9, ⟨-, rfl⟩, rfl⟩ | ⟨-, -, -, rfl⟩
  · exact hi_out
  · exact hi_F.rf

theorem st_disk {σ σ1 τ : cv_S} {dv : Nat → Nat} {op : Int32} {pw : Int64} {kn : Int64} {sa : Int32} {sr : Int32} {rd : Nat} {cnt : Nat} {N : Nat → Int64} {O : Nat → Nat} {V : Nat → Nat → Int64} {i : Int32} {r2 : Int32} {k : Int32} (C : CR σ dv op pw kn sa sr rd cnt N O V) (M : MR σ dv op pw kn sa sr rd cnt N O V) (P : PR op rd cnt N) (hk : (k = 0 ∧ ∃ (r : Int32) (ρ9 : cv_S), ((∃ j, j < 600 ∧ i = nI j ∧ r = σ.1 1 j) ∧ ρ9 = σ) ∧ σ1 = cv_uJ ρ9 59 (vp_updL (ρ9.2.1 59) 0 r.toInt64)) ∨ (k = 1 ∧ ("java/lang/IndexOutOfBoundsException" = "java/lang/IndexOutOfBoundsException" ∧ (i < 0 ∨ nI 600 ≤ i) ∧ σ1 = σ))) (hm : ((i < 0 ∨ nI 600 ≤ i) ∧ τ = cv_uF σ1 49 0 1) ∨ (τ = cv_uF σ1 49 0 0 ∧ ∃ j, j < 600 ∧ i = nI j ∧ r2 = σ1.1 50 j)) : ST k r2.toInt64 τ := by
  rcases hk with ⟨rfl, r, ρ9, ⟨⟨j, hj, hij, h2⟩, rfl⟩, rfl⟩ | ⟨rfl, -, h1, rfl⟩
  · rcases hm with ⟨z1, _⟩ | ⟨rfl, j', hj', hij', h3⟩
    · exfalso
      rw [hij] at z1
      rcases z1 with z1 | z1
      · exact nI_nlt (Nat.zero_le _) (by omega) z1
      · exact nI_ge hj (by omega) z1
    · have e : j = j' := nI_one (hij.symm.trans hij') (by omega) (by omega)
      subst e
      exact ⟨u0_at _ _, fun _ => congrArg Int32.toInt64 ((h2.trans (C.1 j hj).1).trans (h3.trans (M.1 j hj).1).symm), Rel.keep C M P (lo_out.trans lo_u0) (hi_out.trans hi_u0)⟩
  · rcases hm with ⟨_, rfl⟩ | ⟨_, j', hj', hij', h3⟩
    · exact ⟨u0_at _ _, fun z => absurd z (by decide), Rel.keep C M P lo_u0 hi_u0⟩
    · exfalso
      rw [hij'] at h1
      rcases h1 with z1 | z1
      · exact nI_nlt (Nat.zero_le _) (by omega) z1
      · exact nI_ge hj' (by omega) z1

theorem fr_spoil {σ σ1 : cv_S} {dv : Nat → Nat} {op : Int32} {pw : Int64} {kn : Int64} {sa : Int32} {sr : Int32} {rd : Nat} {cnt : Nat} {N : Nat → Int64} {O : Nat → Nat} {V : Nat → Nat → Int64} {i bits : Int32} {k : Int32} (hk : (k = 0 ∧ ∃ j, j < 600 ∧ i = nI j ∧ σ1 = cv_uI σ 1 (upd (σ.1 1) j (σ.1 1 j ^^^ (bits &&& 255)))) ∨ (k = 1 ∧ ("java/lang/IndexOutOfBoundsException" = "java/lang/IndexOutOfBoundsException" ∧ (i < 0 ∨ nI 600 ≤ i) ∧ σ1 = σ))) : hi_F σ σ1 := by
  rcases hk with ⟨-, j, hj, hij, rfl⟩ | ⟨-, -, -, rfl⟩
  · exact hi_cl (cl_uI (by decide))
  · exact hi_F.rf

theorem st_spoil {σ σ1 τ : cv_S} {dv : Nat → Nat} {op : Int32} {pw : Int64} {kn : Int64} {sa : Int32} {sr : Int32} {rd : Nat} {cnt : Nat} {N : Nat → Int64} {O : Nat → Nat} {V : Nat → Nat → Int64} {i bits : Int32} {k : Int32} (C : CR σ dv op pw kn sa sr rd cnt N O V) (M : MR σ dv op pw kn sa sr rd cnt N O V) (P : PR op rd cnt N) (hk : (k = 0 ∧ ∃ j, j < 600 ∧ i = nI j ∧ σ1 = cv_uI σ 1 (upd (σ.1 1) j (σ.1 1 j ^^^ (bits &&& 255)))) ∨ (k = 1 ∧ ("java/lang/IndexOutOfBoundsException" = "java/lang/IndexOutOfBoundsException" ∧ (i < 0 ∨ nI 600 ≤ i) ∧ σ1 = σ))) (hm : ((i < 0 ∨ nI 600 ≤ i) ∧ τ = cv_uF σ1 49 0 1) ∨ (∃ j, j < 600 ∧ i = nI j ∧ τ = cv_uI (cv_uF σ1 49 0 0) 50 (upd (σ1.1 50) j (σ1.1 50 j ^^^ (bits &&& 255))))) : τ.2.2.1 49 0 = k ∧ Rel τ := by
  rcases hk with ⟨rfl, j, hj, hij, rfl⟩ | ⟨rfl, -, h1, rfl⟩
  · rcases hm with ⟨z1, _⟩ | ⟨j', hj', hij', rfl⟩
    · exfalso
      rw [hij] at z1
      rcases z1 with z1 | z1
      · exact nI_nlt (Nat.zero_le _) (by omega) z1
      · exact nI_ge hj (by omega) z1
    · have e : j = j' := nI_one (hij.symm.trans hij') (by omega) (by omega)
      subst e
      refine ⟨u0_at σ 0, fun q => if q = j then dv j ^^^ lb bits.toInt64 0 else dv q, op, pw, kn, sa, sr, rd, cnt, N, O, V, ⟨xor_by C.1 hj bits, C.2.1, C.2.2⟩, ⟨xor_by M.1 hj bits, ?_, M.2.2.1, ?_, fun o => ?_⟩, P⟩
      · exact M.2.1
      · exact M.2.2.2.1
      · exact M.2.2.2.2 o
  · rcases hm with ⟨_, rfl⟩ | ⟨j', hj', hij', h3⟩
    · exact ⟨u0_at _ _, Rel.keep C M P lo_u0 hi_u0⟩
    · exfalso
      rw [hij'] at h1
      rcases h1 with z1 | z1
      · exact nI_nlt (Nat.zero_le _) (by omega) z1
      · exact nI_ge hj' (by omega) z1

theorem fr_isGood {σ σ1 : cv_S} {dv : Nat → Nat} {op : Int32} {pw0 : Int64} {kn0 : Int64} {sa0 : Int32} {sr0 : Int32} {rd0 : Nat} {cnt : Nat} {N : Nat → Int64} {O : Nat → Nat} {V : Nat → Nat → Int64} {sl : Int32} {pw : Int64} {k : Int32} (hk : (k = 0 ∧ ∃ (r : Int32) (ρ9 : cv_S), (∃ j, j < 2 ∧ sl = nI j ∧ ng_F σ ρ9 ∧ ((r = 1 ∧ gd (fun q => dv (300 * j + q)) pw) ∨ (r = 0 ∧ ¬ gd (fun q => dv (300 * j + q)) pw))) ∧ σ1 = cv_uJ ρ9 59 (vp_updL (ρ9.2.1 59) 0 (if r = 0 then 0 else 1))) ∨ (k = 1 ∧ ("java/lang/IndexOutOfBoundsException" = "java/lang/IndexOutOfBoundsException" ∧ (sl < 0 ∨ nI 2 ≤ sl) ∧ σ1 = σ))) : hi_F σ σ1 := by
  rcases hk with ⟨-, r, ρ9, ⟨j, hj, hij, hg, -⟩, rfl⟩ | ⟨-, -, -, rfl⟩
  · exact (hi_cl (cl_ng hg)).trans hi_out
  · exact hi_F.rf

theorem st_isGood {σ σ1 τ : cv_S} {dv : Nat → Nat} {op : Int32} {pw0 : Int64} {kn0 : Int64} {sa0 : Int32} {sr0 : Int32} {rd0 : Nat} {cnt : Nat} {N : Nat → Int64} {O : Nat → Nat} {V : Nat → Nat → Int64} {sl : Int32} {pw : Int64} {r2 : Int32} {k : Int32} (C : CR σ dv op pw0 kn0 sa0 sr0 rd0 cnt N O V) (M : MR σ dv op pw0 kn0 sa0 sr0 rd0 cnt N O V) (P : PR op rd0 cnt N) (hk : (k = 0 ∧ ∃ (r : Int32) (ρ9 : cv_S), (∃ j, j < 2 ∧ sl = nI j ∧ ng_F σ ρ9 ∧ ((r = 1 ∧ gd (fun q => dv (300 * j + q)) pw) ∨ (r = 0 ∧ ¬ gd (fun q => dv (300 * j + q)) pw))) ∧ σ1 = cv_uJ ρ9 59 (vp_updL (ρ9.2.1 59) 0 (if r = 0 then 0 else 1))) ∨ (k = 1 ∧ ("java/lang/IndexOutOfBoundsException" = "java/lang/IndexOutOfBoundsException" ∧ (sl < 0 ∨ nI 2 ≤ sl) ∧ σ1 = σ))) (hm : ((sl < 0 ∨ nI 2 ≤ sl) ∧ τ = cv_uF σ1 49 0 1) ∨ (cv_fr [54, 55, 56, 57, 58] (cv_uF σ1 49 0 0) τ ∧ ∃ j, j < 2 ∧ sl = nI j ∧ ((r2 = 1 ∧ gd (fun q => dv (300 * j + q)) pw) ∨ (r2 = 0 ∧ ¬ gd (fun q => dv (300 * j + q)) pw)))) : ST k (if r2 = 0 then 0 else 1) τ := by
  rcases hk with ⟨rfl, r, ρ9, ⟨j, hj, hij, hg, h2⟩, rfl⟩ | ⟨rfl, -, h1, rfl⟩
  · rcases hm with ⟨z1, _⟩ | ⟨hf, j', hj', hij', h3⟩
    · exfalso
      rw [hij] at z1
      rcases z1 with z1 | z1
      · exact nI_nlt (Nat.zero_le _) (by omega) z1
      · exact nI_ge hj (by omega) z1
    · have e : j = j' := nI_one (hij.symm.trans hij') (by omega) (by omega)
      subst e
      have hmd := (md_uF (i := 0) (x := 0)).trans (md_fr hf (by decide))
      refine ⟨?_, fun _ => ?_, Rel.keep C M P (((lo_ng hg).trans lo_out).trans (lo_md hmd)) ((((hi_cl (cl_ng hg)).trans hi_out).trans hi_u0).trans (hi_fr hf))⟩
      · rw [hf.2]; exact u0_at _ _
      · rw [(hmd 59 (Or.inr rfl)).2.1]
        show (if r = 0 then 0 else 1) = (if r2 = 0 then (0 : Int64) else 1)
        rcases h2 with ⟨rfl, g⟩ | ⟨rfl, g⟩ <;> rcases h3 with ⟨rfl, g'⟩ | ⟨rfl, g'⟩
        · rfl
        · exact absurd g g'
        · exact absurd g' g
        · rfl
  · rcases hm with ⟨_, rfl⟩ | ⟨_, j', hj', hij', h3⟩
    · exact ⟨u0_at _ _, fun z => absurd z (by decide), Rel.keep C M P lo_u0 hi_u0⟩
    · exfalso
      rw [hij'] at h1
      rcases h1 with z1 | z1
      · exact nI_nlt (Nat.zero_le _) (by omega) z1
      · exact nI_ge hj' (by omega) z1

theorem fr_value {σ σ1 : cv_S} {dv : Nat → Nat} {op : Int32} {pw : Int64} {kn : Int64} {sa : Int32} {sr : Int32} {rd : Nat} {cnt : Nat} {N : Nat → Int64} {O : Nat → Nat} {V : Nat → Nat → Int64} {nm : Int64} {bk : Int32} {k : Int32} (hk : (k = 0 ∧ ∃ (r : Int64) (ρ9 : cv_S), (op = 1 ∧ (∃ a k, fnY N cnt nm a ∧ k ≤ O a ∧ bk = nI k ∧ r = V a k) ∧ ρ9 = σ) ∧ σ1 = cv_uJ ρ9 59 (vp_updL (ρ9.2.1 59) 0 r)) ∨ (k = 1 ∧ (("java/lang/IllegalStateException" = "java/lang/IllegalStateException" ∧ op = 0 ∧ σ1 = σ) ∨ ("java/lang/IllegalStateException" = "java/lang/IndexOutOfBoundsException" ∧ op = 1 ∧ (bk < 0 ∨ 2 < bk) ∧ σ1 = σ) ∨ ("java/lang/IllegalStateException" = "java/util/NoSuchElementException" ∧ op = 1 ∧ ¬ bk < 0 ∧ ¬ 2 < bk ∧ (fnN N cnt nm ∨ ∃ a, fnY N cnt nm a ∧ nI (O a) < bk) ∧ σ1 = σ))) ∨ (k = 2 ∧ (("java/lang/IndexOutOfBoundsException" = "java/lang/IllegalStateException" ∧ op = 0 ∧ σ1 = σ) ∨ ("java/lang/IndexOutOfBoundsException" = "java/lang/IndexOutOfBoundsException" ∧ op = 1 ∧ (bk < 0 ∨ 2 < bk) ∧ σ1 = σ) ∨ ("java/lang/IndexOutOfBoundsException" = "java/util/NoSuchElementException" ∧ op = 1 ∧ ¬ bk < 0 ∧ ¬ 2 < bk ∧ (fnN N cnt nm ∨ ∃ a, fnY N cnt nm a ∧ nI (O a) < bk) ∧ σ1 = σ))) ∨ (k = 3 ∧ (("java/util/NoSuchElementException" = "java/lang/IllegalStateException" ∧ op = 0 ∧ σ1 = σ) ∨ ("java/util/NoSuchElementException" = "java/lang/IndexOutOfBoundsException" ∧ op = 1 ∧ (bk < 0 ∨ 2 < bk) ∧ σ1 = σ) ∨ ("java/util/NoSuchElementException" = "java/util/NoSuchElementException" ∧ op = 1 ∧ ¬ bk < 0 ∧ ¬ 2 < bk ∧ (fnN N cnt nm ∨ ∃ a, fnY N cnt nm a ∧ nI (O a) < bk) ∧ σ1 = σ)))) : hi_F σ σ1 := by
  rcases hk with ⟨-, r, ρ9, ⟨h1, -, rfl⟩, rfl⟩ | ⟨-, h⟩ | ⟨-, h⟩ | ⟨-, h⟩
  · exact hi_out
  all_goals rcases h with ⟨-, -, rfl⟩ | ⟨-, -, -, rfl⟩ | ⟨-, -, -, -, -, rfl⟩ <;> exact hi_F.rf

theorem st_value {σ σ1 τ : cv_S} {dv : Nat → Nat} {op : Int32} {pw : Int64} {kn : Int64} {sa : Int32} {sr : Int32} {rd : Nat} {cnt : Nat} {N : Nat → Int64} {O : Nat → Nat} {V : Nat → Nat → Int64} {nm : Int64} {bk : Int32} {r2 : Int64} {k : Int32} (C : CR σ dv op pw kn sa sr rd cnt N O V) (M : MR σ dv op pw kn sa sr rd cnt N O V) (P : PR op rd cnt N) (hk : (k = 0 ∧ ∃ (r : Int64) (ρ9 : cv_S), (op = 1 ∧ (∃ a k, fnY N cnt nm a ∧ k ≤ O a ∧ bk = nI k ∧ r = V a k) ∧ ρ9 = σ) ∧ σ1 = cv_uJ ρ9 59 (vp_updL (ρ9.2.1 59) 0 r)) ∨ (k = 1 ∧ (("java/lang/IllegalStateException" = "java/lang/IllegalStateException" ∧ op = 0 ∧ σ1 = σ) ∨ ("java/lang/IllegalStateException" = "java/lang/IndexOutOfBoundsException" ∧ op = 1 ∧ (bk < 0 ∨ 2 < bk) ∧ σ1 = σ) ∨ ("java/lang/IllegalStateException" = "java/util/NoSuchElementException" ∧ op = 1 ∧ ¬ bk < 0 ∧ ¬ 2 < bk ∧ (fnN N cnt nm ∨ ∃ a, fnY N cnt nm a ∧ nI (O a) < bk) ∧ σ1 = σ))) ∨ (k = 2 ∧ (("java/lang/IndexOutOfBoundsException" = "java/lang/IllegalStateException" ∧ op = 0 ∧ σ1 = σ) ∨ ("java/lang/IndexOutOfBoundsException" = "java/lang/IndexOutOfBoundsException" ∧ op = 1 ∧ (bk < 0 ∨ 2 < bk) ∧ σ1 = σ) ∨ ("java/lang/IndexOutOfBoundsException" = "java/util/NoSuchElementException" ∧ op = 1 ∧ ¬ bk < 0 ∧ ¬ 2 < bk ∧ (fnN N cnt nm ∨ ∃ a, fnY N cnt nm a ∧ nI (O a) < bk) ∧ σ1 = σ))) ∨ (k = 3 ∧ (("java/util/NoSuchElementException" = "java/lang/IllegalStateException" ∧ op = 0 ∧ σ1 = σ) ∨ ("java/util/NoSuchElementException" = "java/lang/IndexOutOfBoundsException" ∧ op = 1 ∧ (bk < 0 ∨ 2 < bk) ∧ σ1 = σ) ∨ ("java/util/NoSuchElementException" = "java/util/NoSuchElementException" ∧ op = 1 ∧ ¬ bk < 0 ∧ ¬ 2 < bk ∧ (fnN N cnt nm ∨ ∃ a, fnY N cnt nm a ∧ nI (O a) < bk) ∧ σ1 = σ)))) (hm : (σ1.2.2.1 49 2 = 0 ∧ τ = cv_uF σ1 49 0 1) ∨ (σ1.2.2.1 49 2 = 1 ∧ (bk < 0 ∨ 2 < bk) ∧ τ = cv_uF σ1 49 0 2) ∨ (σ1.2.2.1 49 2 = 1 ∧ ¬ bk < 0 ∧ ¬ 2 < bk ∧ ((∃ a, fdN N cnt nm a) ∨ (∃ a, fdY N cnt nm a ∧ nI (O a) < bk)) ∧ τ = cv_uF σ1 49 0 3) ∨ (σ1.2.2.1 49 2 = 1 ∧ τ = cv_uF σ1 49 0 0 ∧ ∃ a k, fdY N cnt nm a ∧ k ≤ O a ∧ bk = nI k ∧ r2 = V a k)) : ST k r2 τ := by
  rcases hk with ⟨rfl, r, ρ9, ⟨h1, ⟨a, k, y, hk, hbk, h2⟩, rfl⟩, rfl⟩ | ⟨rfl, h⟩ | ⟨rfl, h⟩ | ⟨rfl, h⟩
  · have hs := (P.2 h1).2.2
    have hO := ((C.2.2 h1).2.2.2.2.2.2.2 a y.1).2.2.1
    rcases hm with ⟨z, _⟩ | ⟨z, z1, _⟩ | ⟨z, z1, z2, z3, _⟩ | ⟨z, rfl, a', k', y', hk', hbk', h3⟩
    · exact absurd (h1.symm.trans (M.2.1.symm.trans z)) (by decide)
    · exfalso
      rw [hbk] at z1
      rcases z1 with z1 | z1
      · exact nI_nlt (Nat.zero_le _) (by omega) z1
      · exact nI_nlt (a := 2) (b := k) (by omega) (by omega) z1
    · exfalso
      rcases z3 with ⟨a', n'⟩ | ⟨a', y', z4⟩
      · exact fy_n hs y n'
      · have e := fy_one hs y y'
        subst e
        rw [hbk] at z4
        exact nI_nlt hk (by omega) z4
    · have e := fy_one hs y y'
      subst e
      have e2 : k = k' := nI_one (hbk.symm.trans hbk') (by omega) (by omega)
      subst e2
      exact ⟨u0_at _ _, fun _ => h2.trans h3.symm, Rel.keep C M P (lo_out.trans lo_u0) (hi_out.trans hi_u0)⟩
  · rcases h with ⟨-, h1, rfl⟩ | ⟨n, -⟩ | ⟨n, -⟩
    · rcases hm with ⟨z, rfl⟩ | ⟨z, _⟩ | ⟨z, _⟩ | ⟨z, _⟩
      · exact ⟨u0_at _ _, fun z => absurd z (by decide), Rel.keep C M P lo_u0 hi_u0⟩
      · exact absurd (h1.symm.trans (M.2.1.symm.trans z)) (by decide)
      · exact absurd (h1.symm.trans (M.2.1.symm.trans z)) (by decide)
      · exact absurd (h1.symm.trans (M.2.1.symm.trans z)) (by decide)
    · exact absurd n (by decide)
    · exact absurd n (by decide)
  · rcases h with ⟨n, -⟩ | ⟨-, h1, h2, rfl⟩ | ⟨n, -⟩
    · exact absurd n (by decide)
    · rcases hm with ⟨z, _⟩ | ⟨z, z1, rfl⟩ | ⟨z, z1, z2, z3, _⟩ | ⟨z, _, a', k', y', hk', hbk', h3⟩
      · exact absurd (h1.symm.trans (M.2.1.symm.trans z)) (by decide)
      · exact ⟨u0_at _ _, fun z => absurd z (by decide), Rel.keep C M P lo_u0 hi_u0⟩
      · exact (h2.elim z1 z2).elim
      · exfalso
        have hO := ((C.2.2 h1).2.2.2.2.2.2.2 a' y'.1).2.2.1
        rw [hbk'] at h2
        rcases h2 with z1 | z1
        · exact nI_nlt (Nat.zero_le _) (by omega) z1
        · exact nI_nlt (a := 2) (b := k') (by omega) (by omega) z1
    · exact absurd n (by decide)
  · rcases h with ⟨n, -⟩ | ⟨n, -⟩ | ⟨-, h1, h2, h3, h4, rfl⟩
    · exact absurd n (by decide)
    · exact absurd n (by decide)
    · have hs := (P.2 h1).2.2
      rcases hm with ⟨z, _⟩ | ⟨z, z1, _⟩ | ⟨z, z1, z2, z3, rfl⟩ | ⟨z, _, a', k', y', hk', hbk', h5⟩
      · exact absurd (h1.symm.trans (M.2.1.symm.trans z)) (by decide)
      · exact (z1.elim h2 h3).elim
      · exact ⟨u0_at _ _, fun z => absurd z (by decide), Rel.keep C M P lo_u0 hi_u0⟩
      · exfalso
        rcases h4 with n | ⟨a, y, z4⟩
        · exact fn_y n y'
        · have hO := ((C.2.2 h1).2.2.2.2.2.2.2 a y.1).2.2.1
          have e := fy_one hs y y'
          subst e
          rw [hbk'] at z4
          exact nI_nlt hk' (by omega) z4

theorem fr_renew {σ σ1 : cv_S} {dv : Nat → Nat} {op : Int32} {pw0 : Int64} {kn0 : Int64} {sa0 : Int32} {sr0 : Int32} {rd0 : Nat} {cnt : Nat} {N : Nat → Int64} {O : Nat → Nat} {V : Nat → Nat → Int64} {pw : Int64} {rr : Int32} {k : Int32} (hk : (k = 0 ∧ op = 1 ∧ okR rr ∧ σ1 = cv_uF (cv_uG σ 10 1 pw) 10 3 rr) ∨ (k = 1 ∧ (("java/lang/IllegalStateException" = "java/lang/IllegalStateException" ∧ op = 0 ∧ σ1 = σ) ∨ ("java/lang/IllegalStateException" = "java/lang/IllegalArgumentException" ∧ op = 1 ∧ ¬ okR rr ∧ σ1 = σ))) ∨ (k = 2 ∧ (("java/lang/IllegalArgumentException" = "java/lang/IllegalStateException" ∧ op = 0 ∧ σ1 = σ) ∨ ("java/lang/IllegalArgumentException" = "java/lang/IllegalArgumentException" ∧ op = 1 ∧ ¬ okR rr ∧ σ1 = σ)))) : hi_F σ σ1 := by
  rcases hk with ⟨-, h1, -, rfl⟩ | ⟨-, h⟩ | ⟨-, h⟩
  · exact hi_cl ((cl_uG (by decide)).trans (cl_uF (by decide)))
  all_goals rcases h with ⟨-, -, rfl⟩ | ⟨-, -, -, rfl⟩ <;> exact hi_F.rf

theorem st_renew {σ σ1 τ : cv_S} {dv : Nat → Nat} {op : Int32} {pw0 : Int64} {kn0 : Int64} {sa0 : Int32} {sr0 : Int32} {rd0 : Nat} {cnt : Nat} {N : Nat → Int64} {O : Nat → Nat} {V : Nat → Nat → Int64} {pw : Int64} {rr : Int32} {k : Int32} (C : CR σ dv op pw0 kn0 sa0 sr0 rd0 cnt N O V) (M : MR σ dv op pw0 kn0 sa0 sr0 rd0 cnt N O V) (P : PR op rd0 cnt N) (hk : (k = 0 ∧ op = 1 ∧ okR rr ∧ σ1 = cv_uF (cv_uG σ 10 1 pw) 10 3 rr) ∨ (k = 1 ∧ (("java/lang/IllegalStateException" = "java/lang/IllegalStateException" ∧ op = 0 ∧ σ1 = σ) ∨ ("java/lang/IllegalStateException" = "java/lang/IllegalArgumentException" ∧ op = 1 ∧ ¬ okR rr ∧ σ1 = σ))) ∨ (k = 2 ∧ (("java/lang/IllegalArgumentException" = "java/lang/IllegalStateException" ∧ op = 0 ∧ σ1 = σ) ∨ ("java/lang/IllegalArgumentException" = "java/lang/IllegalArgumentException" ∧ op = 1 ∧ ¬ okR rr ∧ σ1 = σ)))) (hm : (σ1.2.2.1 49 2 = 0 ∧ τ = cv_uF σ1 49 0 1) ∨ (σ1.2.2.1 49 2 = 1 ∧ ¬ okR rr ∧ τ = cv_uF σ1 49 0 2) ∨ (σ1.2.2.1 49 2 = 1 ∧ okR rr ∧ τ = cv_uF (cv_uG (cv_uF σ1 49 0 0) 49 3 pw) 49 6 rr)) : τ.2.2.1 49 0 = k ∧ Rel τ := by
  rcases hk with ⟨rfl, h1, h2, rfl⟩ | ⟨rfl, h⟩ | ⟨rfl, h⟩
  · rcases hm with ⟨z, _⟩ | ⟨z, z1, _⟩ | ⟨z, z1, rfl⟩
    · exact absurd (h1.symm.trans (M.2.1.symm.trans z)) (by decide)
    · exact absurd h2 z1
    · obtain ⟨rd, k1, k2, rfl⟩ := h2
      obtain ⟨c1, c2, c3, c4, c5, c6⟩ := C.2.2 h1
      obtain ⟨m1, m2, m3, m4, m5, m6⟩ := M.2.2.2.2 h1
      refine ⟨u0_at σ 0, dv, op, pw, kn0, sa0, sr0, rd, cnt, N, O, V, ⟨C.1, C.2.1, fun _ => ⟨rfl, c2, c3, rfl, c5, c6⟩⟩, ⟨M.1, M.2.1, M.2.2.1, M.2.2.2.1, fun _ => ⟨rfl, m2, m3, rfl, m5, m6⟩⟩, ⟨P.1, fun _ => ⟨k1, k2, (P.2 h1).2.2⟩⟩⟩
  · rcases h with ⟨-, h1, rfl⟩ | ⟨n, -⟩
    · rcases hm with ⟨z, rfl⟩ | ⟨z, _⟩ | ⟨z, _⟩
      · exact ⟨u0_at _ _, Rel.keep C M P lo_u0 hi_u0⟩
      · exact absurd (h1.symm.trans (M.2.1.symm.trans z)) (by decide)
      · exact absurd (h1.symm.trans (M.2.1.symm.trans z)) (by decide)
    · exact absurd n (by decide)
  · rcases h with ⟨n, -⟩ | ⟨-, h1, h2, rfl⟩
    · exact absurd n (by decide)
    · rcases hm with ⟨z, _⟩ | ⟨z, z1, rfl⟩ | ⟨z, z1, _⟩
      · exact absurd (h1.symm.trans (M.2.1.symm.trans z)) (by decide)
      · exact ⟨u0_at _ _, Rel.keep C M P lo_u0 hi_u0⟩
      · exact absurd z1 h2
