/-! 48: a call of both, over the relation: second part -/
theorem PR1 {op : Int32} {rd cnt : Nat} {N : Nat → Int64} (h1 : op = 1) (h : 1 ≤ rd ∧ rd ≤ 40 ∧ so N cnt) : PR op rd cnt N := ⟨Or.inr h1, fun _ => h⟩
theorem PR0 {rd cnt : Nat} {N : Nat → Int64} : PR 0 rd cnt N := ⟨Or.inl rfl, fun z => absurd z (by decide)⟩
theorem mp_dk {σ τ : cv_S} (h : mp_F σ τ) : τ.1 50 = σ.1 50 ∧ (∀ i, i ≠ 0 → i ≠ 8 → τ.2.2.1 49 i = σ.2.2.1 49 i) ∧ τ.2.2.2 = σ.2.2.2 := ⟨h.1 50 (by decide), fun i a b => h.2.2.1 49 i (Or.inr ⟨a, b⟩), h.2.2.2⟩
/-- the class's half after its list was changed -/
theorem CR.el {σ τ : cv_S} {dv : Nat → Nat} {op : Int32} {pw kn : Int64} {sa sr : Int32} {rd cnt cnt' : Nat} {N N' : Nat → Int64} {O O' : Nat → Nat} {V V' : Nat → Nat → Int64} (h : el_F 0 σ τ) (c : CR σ dv op pw kn sa sr rd cnt N O V) (h' : el_R τ 0 cnt' N' O' V') : CR τ dv op pw kn sa sr rd cnt' N' O' V' := by
  refine ⟨by rw [h.1 1 (by decide)]; exact c.1, by rw [h.2.2.1 0 5 (by decide)]; exact c.2.1, fun o => ?_⟩
  obtain ⟨q1, q2, q3, q4, q5, q6⟩ := c.2.2 o
  exact ⟨by rw [h.2.2.2]; exact q1, by rw [h.2.2.2]; exact q2, by rw [h.2.2.1 10 2 (by decide)]; exact q3, by rw [h.2.2.1 10 3 (by decide)]; exact q4, by rw [h.2.2.1 10 4 (by decide)]; exact q5, h'⟩
theorem MR.mp {σ τ : cv_S} {dv : Nat → Nat} {op : Int32} {pw kn : Int64} {sa sr : Int32} {rd cnt cnt' : Nat} {N N' : Nat → Int64} {O O' : Nat → Nat} {V V' : Nat → Nat → Int64} (h : mp_F σ τ) (c : MR σ dv op pw kn sa sr rd cnt N O V) (h' : em_R τ cnt' N' O' V') : MR τ dv op pw kn sa sr rd cnt' N' O' V' := by
  obtain ⟨d1, d2, d3⟩ := mp_dk h
  refine ⟨by rw [d1]; exact c.1, by rw [d2 2 (by decide) (by decide)]; exact c.2.1, h'.2.1, h'.1, fun o => ?_⟩
  obtain ⟨q1, q2, q3, q4, q5, q6⟩ := c.2.2.2.2 o
  exact ⟨by rw [d3]; exact q1, by rw [d3]; exact q2, by rw [d2 5 (by decide) (by decide)]; exact q3, by rw [d2 6 (by decide) (by decide)]; exact q4, by rw [d2 7 (by decide) (by decide)]; exact q5, h'⟩
theorem mdJ {σ τ : cv_S} {x : Int64} (h : md_F (cv_uJ σ 59 (vp_updL (σ.2.1 59) 0 x)) τ) : τ.2.1 59 0 = x := by rw [(h 59 (Or.inr rfl)).2.1]; rfl

theorem fr_put {σ σ1 : cv_S} {dv : Nat → Nat} {op : Int32} {pw : Int64} {kn : Int64} {sa : Int32} {sr : Int32} {rd : Nat} {cnt : Nat} {N : Nat → Int64} {O : Nat → Nat} {V : Nat → Nat → Int64} {nm xv : Int64} {k : Int32} (hk : (k = 0 ∧ ∃ (r : Int32) (ρ9 : cv_S), (op = 1 ∧ nm ≠ 0 ∧ el_F 0 σ ρ9 ∧ ((r = 0 ∧ ∃ a, fnY N cnt nm a ∧ ((V a 0 = xv ∧ ρ9 = σ) ∨ (V a 0 ≠ xv ∧ el_R ρ9 0 cnt N (ch_O O a) (ch_V V a xv)))) ∨ (r = 1 ∧ fnN N cnt nm ∧ cnt ≤ 7 ∧ ∃ a, a ≤ cnt ∧ (∀ j, a ≤ j → j < cnt → nm < N j) ∧ (a = 0 ∨ ¬ nm < N (a - 1)) ∧ el_R ρ9 0 (cnt + 1) (li_ins N a nm) (li_ins O a 0) (li_ins V a (fun _ => xv))))) ∧ σ1 = cv_uJ ρ9 59 (vp_updL (ρ9.2.1 59) 0 (if r = 0 then 0 else 1))) ∨ (k = 1 ∧ (("java/lang/IllegalStateException" = "java/lang/IllegalStateException" ∧ op = 0 ∧ σ1 = σ) ∨ ("java/lang/IllegalStateException" = "java/lang/IllegalArgumentException" ∧ op = 1 ∧ nm = 0 ∧ σ1 = σ) ∨ ("java/lang/IllegalStateException" = "java/lang/UnsupportedOperationException" ∧ op = 1 ∧ nm ≠ 0 ∧ fnN N cnt nm ∧ cnt = 8 ∧ σ1 = σ))) ∨ (k = 2 ∧ (("java/lang/IllegalArgumentException" = "java/lang/IllegalStateException" ∧ op = 0 ∧ σ1 = σ) ∨ ("java/lang/IllegalArgumentException" = "java/lang/IllegalArgumentException" ∧ op = 1 ∧ nm = 0 ∧ σ1 = σ) ∨ ("java/lang/IllegalArgumentException" = "java/lang/UnsupportedOperationException" ∧ op = 1 ∧ nm ≠ 0 ∧ fnN N cnt nm ∧ cnt = 8 ∧ σ1 = σ))) ∨ (k = 3 ∧ (("java/lang/UnsupportedOperationException" = "java/lang/IllegalStateException" ∧ op = 0 ∧ σ1 = σ) ∨ ("java/lang/UnsupportedOperationException" = "java/lang/IllegalArgumentException" ∧ op = 1 ∧ nm = 0 ∧ σ1 = σ) ∨ ("java/lang/UnsupportedOperationException" = "java/lang/UnsupportedOperationException" ∧ op = 1 ∧ nm ≠ 0 ∧ fnN N cnt nm ∧ cnt = 8 ∧ σ1 = σ)))) : hi_F σ σ1 := by
  rcases hk with ⟨-, r, ρ9, ⟨h1, -, hf, -⟩, rfl⟩ | ⟨-, h⟩ | ⟨-, h⟩ | ⟨-, h⟩
  · exact (hi_el hf).trans hi_out
  all_goals rcases h with ⟨-, -, rfl⟩ | ⟨-, -, -, rfl⟩ | ⟨-, -, -, -, -, rfl⟩ <;> exact hi_F.rf

theorem st_put {σ σ1 τ : cv_S} {dv : Nat → Nat} {op : Int32} {pw : Int64} {kn : Int64} {sa : Int32} {sr : Int32} {rd : Nat} {cnt : Nat} {N : Nat → Int64} {O : Nat → Nat} {V : Nat → Nat → Int64} {nm xv : Int64} {r2 : Int32} {k : Int32} (C : CR σ dv op pw kn sa sr rd cnt N O V) (M : MR σ dv op pw kn sa sr rd cnt N O V) (P : PR op rd cnt N) (hk : (k = 0 ∧ ∃ (r : Int32) (ρ9 : cv_S), (op = 1 ∧ nm ≠ 0 ∧ el_F 0 σ ρ9 ∧ ((r = 0 ∧ ∃ a, fnY N cnt nm a ∧ ((V a 0 = xv ∧ ρ9 = σ) ∨ (V a 0 ≠ xv ∧ el_R ρ9 0 cnt N (ch_O O a) (ch_V V a xv)))) ∨ (r = 1 ∧ fnN N cnt nm ∧ cnt ≤ 7 ∧ ∃ a, a ≤ cnt ∧ (∀ j, a ≤ j → j < cnt → nm < N j) ∧ (a = 0 ∨ ¬ nm < N (a - 1)) ∧ el_R ρ9 0 (cnt + 1) (li_ins N a nm) (li_ins O a 0) (li_ins V a (fun _ => xv))))) ∧ σ1 = cv_uJ ρ9 59 (vp_updL (ρ9.2.1 59) 0 (if r = 0 then 0 else 1))) ∨ (k = 1 ∧ (("java/lang/IllegalStateException" = "java/lang/IllegalStateException" ∧ op = 0 ∧ σ1 = σ) ∨ ("java/lang/IllegalStateException" = "java/lang/IllegalArgumentException" ∧ op = 1 ∧ nm = 0 ∧ σ1 = σ) ∨ ("java/lang/IllegalStateException" = "java/lang/UnsupportedOperationException" ∧ op = 1 ∧ nm ≠ 0 ∧ fnN N cnt nm ∧ cnt = 8 ∧ σ1 = σ))) ∨ (k = 2 ∧ (("java/lang/IllegalArgumentException" = "java/lang/IllegalStateException" ∧ op = 0 ∧ σ1 = σ) ∨ ("java/lang/IllegalArgumentException" = "java/lang/IllegalArgumentException" ∧ op = 1 ∧ nm = 0 ∧ σ1 = σ) ∨ ("java/lang/IllegalArgumentException" = "java/lang/UnsupportedOperationException" ∧ op = 1 ∧ nm ≠ 0 ∧ fnN N cnt nm ∧ cnt = 8 ∧ σ1 = σ))) ∨ (k = 3 ∧ (("java/lang/UnsupportedOperationException" = "java/lang/IllegalStateException" ∧ op = 0 ∧ σ1 = σ) ∨ ("java/lang/UnsupportedOperationException" = "java/lang/IllegalArgumentException" ∧ op = 1 ∧ nm = 0 ∧ σ1 = σ) ∨ ("java/lang/UnsupportedOperationException" = "java/lang/UnsupportedOperationException" ∧ op = 1 ∧ nm ≠ 0 ∧ fnN N cnt nm ∧ cnt = 8 ∧ σ1 = σ)))) (hm : puM σ1 cnt N O V nm xv r2 τ) : ST k (if r2 = 0 then 0 else 1) τ := by
  rcases hk with ⟨rfl, r, ρ9, ⟨h1, hn0, hf, h2⟩, rfl⟩ | ⟨rfl, h⟩ | ⟨rfl, h⟩ | ⟨rfl, h⟩
  · have hs := (P.2 h1).2.2
    have hfx := (hi_el hf).trans (hi_out (g := vp_updL (ρ9.2.1 59) 0 (if r = 0 then 0 else 1)))
    have hz := (hfx.2.2.2.2.1 2 (by decide) (by decide)).trans M.2.1
    have M1 := M.hi hfx
    rcases hm with ⟨z, _⟩ | ⟨z, z1, _⟩ | ⟨z, z1, z2, ⟨a', n'⟩, _⟩ | ⟨z, z1, z2, hp, h3⟩
    · exact absurd (h1.symm.trans (hz.symm.trans z)) (by decide)
    · exact absurd z1 hn0
    · exfalso
      rcases h2 with ⟨_, a, y, _⟩ | ⟨_, _, h4, _⟩
      · exact fy_n hs y n'
      · omega
    · have hmd := md_mp hp
      refine ⟨z2, fun _ => (mdJ hmd).trans ?_, ?_⟩
      · rcases h2 with ⟨rfl, a, y, _⟩ | ⟨rfl, n, _⟩ <;> rcases h3 with ⟨i, y', rfl, _⟩ | ⟨_, a', n', rfl, _⟩
        · rfl
        · exact (fy_n hs y n').elim
        · exact (fn_y n y').elim
        · rfl
      · rcases h2 with ⟨_, a, y, h4⟩ | ⟨_, n, h7, a, ha, g1, g2, h4⟩ <;> rcases h3 with ⟨i, y', _, h5⟩ | ⟨_, a', n', _, h5⟩
        · have e := fy_one hs y y'
          subst e
          rcases h4 with ⟨e4, rfl⟩ | ⟨e4, h4⟩ <;> rcases h5 with ⟨e5, h5⟩ | ⟨e5, h5⟩
          · exact Rel.mk2 (C.lo lo_out) hmd (M1.mp hp h5) P
          · exact absurd e4 e5
          · exact absurd e5 e4
          · exact Rel.mk2 ((C.el hf h4).lo lo_out) hmd (M1.mp hp h5) P
        · exact (fy_n hs y n').elim
        · exact (fn_y n y').elim
        · have e := in_one hs ha g1 g2 n'
          subst e
          exact Rel.mk2 ((C.el hf h4).lo lo_out) hmd (M1.mp hp h5) (PR1 h1 ⟨(P.2 h1).1, (P.2 h1).2.1, so_ins hs g1 n'⟩)
  · rcases h with ⟨-, h1, rfl⟩ | ⟨n, -⟩ | ⟨n, -⟩
    · rcases hm with ⟨z, rfl⟩ | ⟨z, _⟩ | ⟨z, _⟩ | ⟨z, _⟩
      · exact ⟨u0_at _ _, fun z => absurd z (by decide), Rel.keep C M P lo_u0 hi_u0⟩
      · exact absurd (h1.symm.trans (M.2.1.symm.trans z)) (by decide)
      · exact absurd (h1.symm.trans (M.2.1.symm.trans z)) (by decide)
      · exact absurd (h1.symm.trans (M.2.1.symm.trans z)) (by decide)
    · exact absurd n (by decide)
    · exact absurd n (by decide)
  · rcases h with ⟨n, -⟩ | ⟨-, h1, h2, rfl⟩ | ⟨n, -⟩
    · exact absurd n (by decide)
    · rcases hm with ⟨z, _⟩ | ⟨z, _, rfl⟩ | ⟨z, z1, _⟩ | ⟨z, z1, _⟩
      · exact absurd (h1.symm.trans (M.2.1.symm.trans z)) (by decide)
      · exact ⟨u0_at _ _, fun z => absurd z (by decide), Rel.keep C M P lo_u0 hi_u0⟩
      · exact absurd h2 z1
      · exact absurd h2 z1
    · exact absurd n (by decide)
  · rcases h with ⟨n, -⟩ | ⟨n, -⟩ | ⟨-, h1, h2, n, h8, rfl⟩
    · exact absurd n (by decide)
    · exact absurd n (by decide)
    · rcases hm with ⟨z, _⟩ | ⟨z, z1, _⟩ | ⟨z, _, _, _, rfl⟩ | ⟨z, z1, z2, hp, h3⟩
      · exact absurd (h1.symm.trans (M.2.1.symm.trans z)) (by decide)
      · exact absurd z1 h2
      · exact ⟨u0_at _ _, fun z => absurd z (by decide), Rel.keep C M P lo_u0 hi_u0⟩
      · exfalso
        rcases h3 with ⟨i, y', _⟩ | ⟨h9, _⟩
        · exact fn_y n y'
        · omega

theorem fr_remove {σ σ1 : cv_S} {dv : Nat → Nat} {op : Int32} {pw : Int64} {kn : Int64} {sa : Int32} {sr : Int32} {rd : Nat} {cnt : Nat} {N : Nat → Int64} {O : Nat → Nat} {V : Nat → Nat → Int64} {nm : Int64} {k : Int32} (hk : (k = 0 ∧ ∃ (r : Int32) (ρ9 : cv_S), (op = 1 ∧ ((r = 0 ∧ fnN N cnt nm ∧ ρ9 = σ) ∨ (r = 1 ∧ el_F 0 σ ρ9 ∧ ∃ a, fnY N cnt nm a ∧ el_R ρ9 0 (cnt - 1) (li_del N a) (li_del O a) (li_del V a)))) ∧ σ1 = cv_uJ ρ9 59 (vp_updL (ρ9.2.1 59) 0 (if r = 0 then 0 else 1))) ∨ (k = 1 ∧ (("java/lang/IllegalStateException" = "java/lang/IllegalStateException" ∧ op = 0 ∧ σ1 = σ)))) : hi_F σ σ1 := by
  rcases hk with ⟨-, r, ρ9, ⟨h1, ⟨-, -, rfl⟩ | ⟨-, hf, -⟩⟩, rfl⟩ | ⟨-, -, h1, rfl⟩
  · exact hi_out
  · exact (hi_el hf).trans hi_out
  · exact hi_F.rf

theorem st_remove {σ σ1 τ : cv_S} {dv : Nat → Nat} {op : Int32} {pw : Int64} {kn : Int64} {sa : Int32} {sr : Int32} {rd : Nat} {cnt : Nat} {N : Nat → Int64} {O : Nat → Nat} {V : Nat → Nat → Int64} {nm : Int64} {r2 : Int32} {k : Int32} (C : CR σ dv op pw kn sa sr rd cnt N O V) (M : MR σ dv op pw kn sa sr rd cnt N O V) (P : PR op rd cnt N) (hk : (k = 0 ∧ ∃ (r : Int32) (ρ9 : cv_S), (op = 1 ∧ ((r = 0 ∧ fnN N cnt nm ∧ ρ9 = σ) ∨ (r = 1 ∧ el_F 0 σ ρ9 ∧ ∃ a, fnY N cnt nm a ∧ el_R ρ9 0 (cnt - 1) (li_del N a) (li_del O a) (li_del V a)))) ∧ σ1 = cv_uJ ρ9 59 (vp_updL (ρ9.2.1 59) 0 (if r = 0 then 0 else 1))) ∨ (k = 1 ∧ (("java/lang/IllegalStateException" = "java/lang/IllegalStateException" ∧ op = 0 ∧ σ1 = σ)))) (hm : (σ1.2.2.1 49 2 = 0 ∧ τ = cv_uF σ1 49 0 1) ∨ (σ1.2.2.1 49 2 = 1 ∧ (∃ a, fdN N cnt nm a) ∧ r2 = 0 ∧ τ = cv_uF σ1 49 0 0) ∨ (σ1.2.2.1 49 2 = 1 ∧ r2 = 1 ∧ τ.2.2.1 49 0 = 0 ∧ mp_F σ1 τ ∧ ∃ a, fdY N cnt nm a ∧ em_R τ (cnt - 1) (li_del N a) (li_del O a) (li_del V a))) : ST k (if r2 = 0 then 0 else 1) τ := by
  rcases hk with ⟨rfl, r, ρ9, ⟨h1, h2⟩, rfl⟩ | ⟨rfl, -, h1, rfl⟩
  · have hs := (P.2 h1).2.2
    rcases h2 with ⟨rfl, n, rfl⟩ | ⟨rfl, hf, a, y, h4⟩
    · rcases hm with ⟨z, _⟩ | ⟨z, _, rfl, rfl⟩ | ⟨z, _, _, _, a', y', _⟩
      · exact absurd (h1.symm.trans (M.2.1.symm.trans z)) (by decide)
      · exact ⟨u0_at _ _, fun _ => rfl, Rel.keep C M P (lo_out.trans lo_u0) (hi_out.trans hi_u0)⟩
      · exact (fn_y n y').elim
    · have hfx := (hi_el hf).trans (hi_out (g := vp_updL (ρ9.2.1 59) 0 (if (1 : Int32) = 0 then 0 else 1)))
      have hz := (hfx.2.2.2.2.1 2 (by decide) (by decide)).trans M.2.1
      have M1 := M.hi hfx
      rcases hm with ⟨z, _⟩ | ⟨z, ⟨a', n'⟩, _⟩ | ⟨z, rfl, z2, hp, a', y', h5⟩
      · exact absurd (h1.symm.trans (hz.symm.trans z)) (by decide)
      · exact (fy_n hs y n').elim
      · have e := fy_one hs y y'
        subst e
        exact ⟨z2, fun _ => mdJ (md_mp hp), Rel.mk2 ((C.el hf h4).lo lo_out) (md_mp hp) (M1.mp hp h5) (PR1 h1 ⟨(P.2 h1).1, (P.2 h1).2.1, so_del hs⟩)⟩
  · rcases hm with ⟨z, rfl⟩ | ⟨z, _⟩ | ⟨z, _⟩
    · exact ⟨u0_at _ _, fun z => absurd z (by decide), Rel.keep C M P lo_u0 hi_u0⟩
    · exact absurd (h1.symm.trans (M.2.1.symm.trans z)) (by decide)
    · exact absurd (h1.symm.trans (M.2.1.symm.trans z)) (by decide)

theorem fr_save {σ σ1 : cv_S} {dv : Nat → Nat} {op : Int32} {pw : Int64} {kn : Int64} {sa : Int32} {sr : Int32} {rd : Nat} {cnt : Nat} {N : Nat → Int64} {O : Nat → Nat} {V : Nat → Nat → Int64} {po : Int32} {k : Int32} (hk : (k = 0 ∧ ∃ (r : Int32) (ρ9 : cv_S), (op = 1 ∧ ∃ q, q < 2 ^ 31 ∧ po = nI q ∧ ∃ ρ a, ng_F σ ρ ∧ svA dv kn a ∧ scM ρ dv pw sa sr rd cnt N O V a q r ρ9) ∧ σ1 = cv_uJ ρ9 59 (vp_updL (ρ9.2.1 59) 0 (if r = 0 then 0 else 1))) ∨ (k = 1 ∧ (("java/lang/IllegalStateException" = "java/lang/IllegalStateException" ∧ op = 0 ∧ σ1 = σ) ∨ ("java/lang/IllegalStateException" = "java/lang/IllegalArgumentException" ∧ op = 1 ∧ po < 0 ∧ σ1 = σ))) ∨ (k = 2 ∧ (("java/lang/IllegalArgumentException" = "java/lang/IllegalStateException" ∧ op = 0 ∧ σ1 = σ) ∨ ("java/lang/IllegalArgumentException" = "java/lang/IllegalArgumentException" ∧ op = 1 ∧ po < 0 ∧ σ1 = σ)))) : hi_F σ σ1 := by
  rcases hk with ⟨-, r, ρ9, ⟨h1, q, hq, hpo, ρ, a, hg, ha, hsc⟩, rfl⟩ | ⟨-, h⟩ | ⟨-, h⟩
  · exact ((hi_cl (cl_ng hg)).trans (hi_cl (cl_sc hsc.1))).trans hi_out
  all_goals rcases h with ⟨-, -, rfl⟩ | ⟨-, -, -, rfl⟩ <;> exact hi_F.rf

theorem st_save {σ σ1 τ : cv_S} {dv : Nat → Nat} {op : Int32} {pw : Int64} {kn : Int64} {sa : Int32} {sr : Int32} {rd : Nat} {cnt : Nat} {N : Nat → Int64} {O : Nat → Nat} {V : Nat → Nat → Int64} {po : Int32} {r2 : Int32} {k : Int32} (C : CR σ dv op pw kn sa sr rd cnt N O V) (M : MR σ dv op pw kn sa sr rd cnt N O V) (P : PR op rd cnt N) (hk : (k = 0 ∧ ∃ (r : Int32) (ρ9 : cv_S), (op = 1 ∧ ∃ q, q < 2 ^ 31 ∧ po = nI q ∧ ∃ ρ a, ng_F σ ρ ∧ svA dv kn a ∧ scM ρ dv pw sa sr rd cnt N O V a q r ρ9) ∧ σ1 = cv_uJ ρ9 59 (vp_updL (ρ9.2.1 59) 0 (if r = 0 then 0 else 1))) ∨ (k = 1 ∧ (("java/lang/IllegalStateException" = "java/lang/IllegalStateException" ∧ op = 0 ∧ σ1 = σ) ∨ ("java/lang/IllegalStateException" = "java/lang/IllegalArgumentException" ∧ op = 1 ∧ po < 0 ∧ σ1 = σ))) ∨ (k = 2 ∧ (("java/lang/IllegalArgumentException" = "java/lang/IllegalStateException" ∧ op = 0 ∧ σ1 = σ) ∨ ("java/lang/IllegalArgumentException" = "java/lang/IllegalArgumentException" ∧ op = 1 ∧ po < 0 ∧ σ1 = σ)))) (hm : (σ1.2.2.1 49 2 = 0 ∧ τ = cv_uF σ1 49 0 1) ∨ (σ1.2.2.1 49 2 = 1 ∧ po < 0 ∧ τ = cv_uF σ1 49 0 2) ∨ (σ1.2.2.1 49 2 = 1 ∧ ∃ q, q < 2 ^ 31 ∧ po = nI q ∧ svM (cv_uF σ1 49 0 0) dv pw kn sa sr rd cnt N O V q r2 τ)) : ST k (if r2 = 0 then 0 else 1) τ := by
  rcases hk with ⟨rfl, r, ρ9, ⟨h1, q, hq, hpo, ρ, a, hg, ha, hsc⟩, rfl⟩ | ⟨rfl, h⟩ | ⟨rfl, h⟩
  · have hfx := ((hi_cl (cl_ng hg)).trans (hi_cl (cl_sc hsc.1))).trans (hi_out (g := vp_updL (ρ9.2.1 59) 0 (if r = 0 then 0 else 1)))
    have hz := (hfx.2.2.2.2.1 2 (by decide) (by decide)).trans M.2.1
    have M1 := M.hi hfx
    have C1 := C.lo (lo_ng hg)
    rcases hm with ⟨z, _⟩ | ⟨z, z1, _⟩ | ⟨z, q', hq', hpo', hsv⟩
    · exact absurd (h1.symm.trans (hz.symm.trans z)) (by decide)
    · exfalso
      rw [hpo] at z1
      exact nI_nlt (Nat.zero_le _) hq z1
    · have e : q = q' := nI_one (hpo.symm.trans hpo') hq hq'
      subst e
      obtain ⟨s1, ⟨a', ha', s2⟩, s3⟩ := hsv
      have e2 := svA_one ha ha'
      subst e2
      obtain ⟨t1, t2, t3, t4, t5⟩ := hsc
      have hmd := (md_uF (σ := cv_uJ ρ9 59 (vp_updL (ρ9.2.1 59) 0 (if r = 0 then 0 else 1))) (i := 0) (x := 0)).trans (md_sv s1)
      have hth : τ.2.2.1 49 0 = 0 := (s1.2.2.1 49 0 (Or.inr (by decide))).trans (u0_at _ _)
      obtain ⟨c1, c2, c3, c4, c5, c6⟩ := C1.2.2 h1
      obtain ⟨m1, m2, m3, m4, m5, m6⟩ := M1.2.2.2.2 h1
      have d1 : ρ9.2.2.2 10 1 = pw := (t1.2.2.2 10 1 (by decide)).trans c1
      have d2 : ρ9.2.2.1 10 2 = sa := (t1.2.2.1 10 2 (by decide) (by decide)).trans c3
      have d3 : ρ9.2.2.1 10 3 = nI rd := (t1.2.2.1 10 3 (by decide) (by decide)).trans c4
      have d4 := el_sc t1 c6
      have f1 : τ.2.2.2 49 3 = pw := (s1.2.2.2 49 3 (Or.inr (by decide))).trans m1
      have f2 : τ.2.2.1 49 5 = sa := (s1.2.2.1 49 5 (Or.inr (by decide))).trans m3
      have f3 : τ.2.2.1 49 6 = nI rd := (s1.2.2.1 49 6 (Or.inr (by decide))).trans m4
      have f4 := sv_em s1 (em_uF (i := 0) (x := 0) m6 (by decide))
      rcases t5 with ⟨u1, rfl, u3⟩ | ⟨u1, rfl, u3⟩ <;> rcases s3 with ⟨v1, rfl, v3⟩ | ⟨v1, rfl, v3⟩
      · refine ⟨hth, fun _ => mdJ hmd, Rel.mk2 (dv := sdv dv a (fl pw sa (sr + 1) rd (co_l N O V cnt cnt)) (min q (29 + co_sz O cnt))) (op := 1) (pw := pw) (kn := pw) (sa := sa) (sr := sr + 1) (rd := rd) (cnt := cnt) (N := N) (O := O) (V := V) (CR.lo lo_out ⟨t2, u3, fun _ => ⟨d1, t3, d2, d3, t4, d4⟩⟩) hmd ⟨s2, v3.1, f4.2.1, f4.1, fun _ => ⟨f1, v3.2.2, f2, f3, v3.2.1, f4⟩⟩ (PR1 rfl (P.2 h1))⟩
      · omega
      · omega
      · refine ⟨hth, fun _ => mdJ hmd, Rel.mk2 (dv := sdv dv a (fl pw sa (sr + 1) rd (co_l N O V cnt cnt)) (min q (29 + co_sz O cnt))) (op := 0) (pw := pw) (kn := pw) (sa := sa) (sr := sr + 1) (rd := rd) (cnt := cnt) (N := N) (O := O) (V := V) (CR.lo lo_out ⟨t2, u3, fun o => absurd o (by decide)⟩) hmd ⟨s2, v3, f4.2.1, f4.1, fun o => absurd o (by decide)⟩ PR0⟩
  · rcases h with ⟨-, h1, rfl⟩ | ⟨n, -⟩
    · rcases hm with ⟨z, rfl⟩ | ⟨z, _⟩ | ⟨z, _⟩
      · exact ⟨u0_at _ _, fun z => absurd z (by decide), Rel.keep C M P lo_u0 hi_u0⟩
      · exact absurd (h1.symm.trans (M.2.1.symm.trans z)) (by decide)
      · exact absurd (h1.symm.trans (M.2.1.symm.trans z)) (by decide)
    · exact absurd n (by decide)
  · rcases h with ⟨n, -⟩ | ⟨-, h1, h2, rfl⟩
    · exact absurd n (by decide)
    · rcases hm with ⟨z, _⟩ | ⟨z, z1, rfl⟩ | ⟨z, q', hq', hpo', _⟩
      · exact absurd (h1.symm.trans (M.2.1.symm.trans z)) (by decide)
      · exact ⟨u0_at _ _, fun z => absurd z (by decide), Rel.keep C M P lo_u0 hi_u0⟩
      · exfalso
        rw [hpo'] at h2
        exact nI_nlt (Nat.zero_le _) hq' h2

theorem fr_open {σ σ1 : cv_S} {dv : Nat → Nat} {op : Int32} {pw0 : Int64} {kn0 : Int64} {sa0 : Int32} {sr0 : Int32} {rd0 : Nat} {cnt : Nat} {N : Nat → Int64} {O : Nat → Nat} {V : Nat → Nat → Int64} {pw : Int64} {k : Int32} (hk : (k = 0 ∧ ∃ (r : Int32) (ρ9 : cv_S), ((nwR 0 dv (fun q => dv (300 + q)) pw ∧ gd dv pw ∧ ocG σ dv pw r ρ9) ∨ (nwR 1 dv (fun q => dv (300 + q)) pw ∧ gd (fun q => dv (300 + q)) pw ∧ ocG σ (fun q => dv (300 + q)) pw r ρ9)) ∧ σ1 = cv_uJ ρ9 59 (vp_updL (ρ9.2.1 59) 0 r.toInt64)) ∨ (k = 1 ∧ ("java/util/NoSuchElementException" = "java/util/NoSuchElementException" ∧ ¬ gd dv pw ∧ ¬ gd (fun q => dv (300 + q)) pw ∧ ng_F σ σ1))) : hi_F σ σ1 := by
  rcases hk with ⟨-, r, ρ9, ⟨-, -, h⟩ | ⟨-, -, h⟩, rfl⟩ | ⟨-, -, -, -, hg⟩
  · exact (hi_cl h.2.2.2.2.2).trans hi_out
  · exact (hi_cl h.2.2.2.2.2).trans hi_out
  · exact hi_cl (cl_ng hg)

theorem st_open {σ σ1 τ : cv_S} {dv : Nat → Nat} {op : Int32} {pw0 : Int64} {kn0 : Int64} {sa0 : Int32} {sr0 : Int32} {rd0 : Nat} {cnt : Nat} {N : Nat → Int64} {O : Nat → Nat} {V : Nat → Nat → Int64} {pw : Int64} {r2 : Int32} {k : Int32} (C : CR σ dv op pw0 kn0 sa0 sr0 rd0 cnt N O V) (M : MR σ dv op pw0 kn0 sa0 sr0 rd0 cnt N O V) (P : PR op rd0 cnt N) (hk : (k = 0 ∧ ∃ (r : Int32) (ρ9 : cv_S), ((nwR 0 dv (fun q => dv (300 + q)) pw ∧ gd dv pw ∧ ocG σ dv pw r ρ9) ∨ (nwR 1 dv (fun q => dv (300 + q)) pw ∧ gd (fun q => dv (300 + q)) pw ∧ ocG σ (fun q => dv (300 + q)) pw r ρ9)) ∧ σ1 = cv_uJ ρ9 59 (vp_updL (ρ9.2.1 59) 0 r.toInt64)) ∨ (k = 1 ∧ ("java/util/NoSuchElementException" = "java/util/NoSuchElementException" ∧ ¬ gd dv pw ∧ ¬ gd (fun q => dv (300 + q)) pw ∧ ng_F σ σ1))) (hm : opM σ1 dv pw r2 τ) : ST k r2.toInt64 τ := by
  rcases hk with ⟨rfl, r, ρ9, h, rfl⟩ | ⟨rfl, -, n0, n1, hg⟩
  · rcases h with ⟨w, gdb, g1, g2, g3, g4, g5, g6⟩ | ⟨w, gdb, g1, g2, g3, g4, g5, g6⟩
    · have M1 := M.hi ((hi_cl g6).trans (hi_out (g := vp_updL (ρ9.2.1 59) 0 r.toInt64)))
      rcases hm with ⟨n0, _⟩ | ⟨w', gd', o1, o2, o3, o4, o5, o6, o7, o8, o9, o10, o11⟩ | ⟨w', gd', o1, o2, o3, o4, o5, o6, o7, o8, o9, o10, o11⟩
      · exact absurd gdb n0
      · refine ⟨o2, fun _ => (mdJ o11).trans ?_, Rel.mk2 (dv := dv) (op := 1) (pw := pw) (kn := pw) (CR.lo lo_out ⟨by rw [g5]; exact C.1, g4, fun _ => ⟨g2.1, g3, g2.2.1, g2.2.2.1, g2.2.2.2.1, g2.2.2.2.2⟩⟩) o11 ⟨by rw [o10]; exact M1.1, o3, o9.2.1, o9.1, fun _ => ⟨o4, o5, o7, o8, o6, o9⟩⟩ (PR1 rfl ⟨gdb.1.2.2.1, gdb.1.2.2.2.1, so_pg gdb.2.2⟩)⟩
        rw [g1, o1]
      · exact absurd (nwR_one w w') (by decide)
    · have M1 := M.hi ((hi_cl g6).trans (hi_out (g := vp_updL (ρ9.2.1 59) 0 r.toInt64)))
      rcases hm with ⟨_, n1, _⟩ | ⟨w', gd', o1, o2, o3, o4, o5, o6, o7, o8, o9, o10, o11⟩ | ⟨w', gd', o1, o2, o3, o4, o5, o6, o7, o8, o9, o10, o11⟩
      · exact absurd gdb n1
      · exact absurd (nwR_one w w') (by decide)
      · refine ⟨o2, fun _ => (mdJ o11).trans ?_, Rel.mk2 (dv := dv) (op := 1) (pw := pw) (kn := pw) (CR.lo lo_out ⟨by rw [g5]; exact C.1, g4, fun _ => ⟨g2.1, g3, g2.2.1, g2.2.2.1, g2.2.2.2.1, g2.2.2.2.2⟩⟩) o11 ⟨by rw [o10]; exact M1.1, o3, o9.2.1, o9.1, fun _ => ⟨o4, o5, o7, o8, o6, o9⟩⟩ (PR1 rfl ⟨gdb.1.2.2.1, gdb.1.2.2.2.1, so_pg gdb.2.2⟩)⟩
        rw [g1, o1]
  · rcases hm with ⟨_, _, ρ, hf, rfl⟩ | ⟨_, gd', _⟩ | ⟨_, gd', _⟩
    · exact ⟨u0_at _ _, fun z => absurd z (by decide), Rel.keep C M P (((lo_ng hg).trans (lo_md (md_fr hf (by decide)))).trans lo_u0) (((hi_cl (cl_ng hg)).trans (hi_fr hf)).trans hi_u0)⟩
    · exact absurd gd' n0
    · exact absurd gd' n1

theorem fr_make {σ σ1 : cv_S} {dv : Nat → Nat} {op : Int32} {pw0 : Int64} {kn0 : Int64} {sa0 : Int32} {sr0 : Int32} {rd0 : Nat} {cnt : Nat} {N : Nat → Int64} {O : Nat → Nat} {V : Nat → Nat → Int64} {pw : Int64} {sa rr po : Int32} {k : Int32} (hk : (k = 0 ∧ ∃ (r : Int32) (ρ9 : cv_S), (∃ rd q ρ, 1 ≤ rd ∧ rd ≤ 40 ∧ rr = nI rd ∧ q < 2 ^ 31 ∧ po = nI q ∧ cl_F σ ρ ∧ ρ.2.2.2 10 1 = pw ∧ ρ.2.2.1 10 2 = sa ∧ ρ.2.2.1 10 3 = nI rd ∧ el_R ρ 0 0 (fun _ => 0) (fun _ => 0) (fun _ _ => 0) ∧ scM ρ (fun _ => 0) pw sa 0 rd 0 (fun _ => 0) (fun _ => 0) (fun _ _ => 0) 0 q r ρ9) ∧ σ1 = cv_uJ ρ9 59 (vp_updL (ρ9.2.1 59) 0 (if r = 0 then 0 else 1))) ∨ (k = 1 ∧ ("java/lang/IllegalArgumentException" = "java/lang/IllegalArgumentException" ∧ ¬ (okR rr ∧ ¬ po < 0) ∧ σ1 = σ))) : hi_F σ σ1 := by
  rcases hk with ⟨-, r, ρ9, ⟨rd, q, ρ, -, -, -, -, -, hc, -, -, -, -, hsc⟩, rfl⟩ | ⟨-, -, -, rfl⟩
  · exact ((hi_cl hc).trans (hi_cl (cl_sc hsc.1))).trans hi_out
  · exact hi_F.rf

theorem st_make {σ σ1 τ : cv_S} {dv : Nat → Nat} {op : Int32} {pw0 : Int64} {kn0 : Int64} {sa0 : Int32} {sr0 : Int32} {rd0 : Nat} {cnt : Nat} {N : Nat → Int64} {O : Nat → Nat} {V : Nat → Nat → Int64} {pw : Int64} {sa rr po : Int32} {r2 : Int32} {k : Int32} (C : CR σ dv op pw0 kn0 sa0 sr0 rd0 cnt N O V) (M : MR σ dv op pw0 kn0 sa0 sr0 rd0 cnt N O V) (P : PR op rd0 cnt N) (hk : (k = 0 ∧ ∃ (r : Int32) (ρ9 : cv_S), (∃ rd q ρ, 1 ≤ rd ∧ rd ≤ 40 ∧ rr = nI rd ∧ q < 2 ^ 31 ∧ po = nI q ∧ cl_F σ ρ ∧ ρ.2.2.2 10 1 = pw ∧ ρ.2.2.1 10 2 = sa ∧ ρ.2.2.1 10 3 = nI rd ∧ el_R ρ 0 0 (fun _ => 0) (fun _ => 0) (fun _ _ => 0) ∧ scM ρ (fun _ => 0) pw sa 0 rd 0 (fun _ => 0) (fun _ => 0) (fun _ _ => 0) 0 q r ρ9) ∧ σ1 = cv_uJ ρ9 59 (vp_updL (ρ9.2.1 59) 0 (if r = 0 then 0 else 1))) ∨ (k = 1 ∧ ("java/lang/IllegalArgumentException" = "java/lang/IllegalArgumentException" ∧ ¬ (okR rr ∧ ¬ po < 0) ∧ σ1 = σ))) (hm : mkM σ1 pw sa rr po r2 τ) : ST k (if r2 = 0 then 0 else 1) τ := by
  rcases hk with ⟨rfl, r, ρ9, ⟨rd, q, ρ, k1, k2, hrr, hq, hpo, hc, c1, c2, c3, c4, hsc⟩, rfl⟩ | ⟨rfl, -, h1, rfl⟩
  · rcases hm with ⟨n, _⟩ | ⟨rd', q', k1', k2', hrr', hq', hpo', z0, hmd, s2, s8, s3⟩
    · exact absurd ⟨⟨rd, k1, k2, hrr⟩, by rw [hpo]; exact nI_nlt (Nat.zero_le _) hq⟩ n
    · have e : q = q' := nI_one (hpo.symm.trans hpo') hq hq'
      subst e
      have e2 : rd = rd' := nI_one (hrr.symm.trans hrr') (by omega) (by omega)
      subst e2
      obtain ⟨t1, t2, t3, t4, t5⟩ := hsc
      have d1 : ρ9.2.2.2 10 1 = pw := (t1.2.2.2 10 1 (by decide)).trans c1
      have d2 : ρ9.2.2.1 10 2 = sa := (t1.2.2.1 10 2 (by decide) (by decide)).trans c2
      have d3 : ρ9.2.2.1 10 3 = nI rd := (t1.2.2.1 10 3 (by decide) (by decide)).trans c3
      have d4 := el_sc t1 c4
      rcases t5 with ⟨u1, rfl, u3⟩ | ⟨u1, rfl, u3⟩ <;> rcases s3 with ⟨v1, rfl, v3⟩ | ⟨v1, rfl, v3⟩
      · refine ⟨z0, fun _ => mdJ hmd, Rel.mk2 (dv := sdv (fun _ => 0) 0 (fl pw sa (0 + 1) rd (byl (nI 0).toInt64 1)) (min q 30)) (op := 1) (pw := pw) (kn := pw) (sa := sa) (sr := 0 + 1) (rd := rd) (cnt := 0) (N := fun _ => 0) (O := fun _ => 0) (V := fun _ _ => 0) (CR.lo lo_out ⟨t2, u3, fun _ => ⟨d1, t3, d2, d3, t4, d4⟩⟩) hmd ⟨s2, v3.1, by decide, s8, fun _ => ⟨v3.2.2.2.1, v3.2.2.1, v3.2.2.2.2.1, v3.2.2.2.2.2, v3.2.1, s8, by decide, fun i hi => absurd hi (by omega)⟩⟩ (PR1 rfl ⟨k1, k2, fun i j _ hj => absurd hj (by omega)⟩)⟩
      · exact absurd v1 (Nat.not_lt.mpr u1)
      · exact absurd u1 (Nat.not_lt.mpr v1)
      · refine ⟨z0, fun _ => mdJ hmd, Rel.mk2 (dv := sdv (fun _ => 0) 0 (fl pw sa (0 + 1) rd (byl (nI 0).toInt64 1)) (min q 30)) (op := 0) (pw := pw) (kn := pw) (sa := sa) (sr := 0 + 1) (rd := rd) (cnt := 0) (N := fun _ => 0) (O := fun _ => 0) (V := fun _ _ => 0) (CR.lo lo_out ⟨t2, u3, fun o => absurd o (by decide)⟩) hmd ⟨s2, v3, by decide, s8, fun o => absurd o (by decide)⟩ PR0⟩
  · rcases hm with ⟨_, rfl⟩ | ⟨rd', q', k1', k2', hrr', hq', hpo', _⟩
    · exact ⟨u0_at _ _, fun z => absurd z (by decide), Rel.keep C M P lo_u0 hi_u0⟩
    · exact absurd ⟨⟨rd', k1', k2', hrr'⟩, by rw [hpo']; exact nI_nlt (Nat.zero_le _) hq'⟩ h1

theorem st_shut {σ : cv_S} {dv : Nat → Nat} {op : Int32} {pw : Int64} {kn : Int64} {sa : Int32} {sr : Int32} {rd : Nat} {cnt : Nat} {N : Nat → Int64} {O : Nat → Nat} {V : Nat → Nat → Int64} (C : CR σ dv op pw kn sa sr rd cnt N O V) (M : MR σ dv op pw kn sa sr rd cnt N O V) : Rel (cv_uF (cv_uF (cv_uF σ 0 5 0) 49 0 0) 49 2 0) :=
  ⟨dv, 0, pw, kn, sa, sr, rd, cnt, N, O, V, ⟨C.1, rfl, fun o => absurd o (by decide)⟩, ⟨M.1, rfl, M.2.2.1, M.2.2.2.1, fun o => absurd o (by decide)⟩, PR0⟩
theorem st_isOpen {σ : cv_S} {dv : Nat → Nat} {op : Int32} {pw : Int64} {kn : Int64} {sa : Int32} {sr : Int32} {rd : Nat} {cnt : Nat} {N : Nat → Int64} {O : Nat → Nat} {V : Nat → Nat → Int64} (C : CR σ dv op pw kn sa sr rd cnt N O V) (M : MR σ dv op pw kn sa sr rd cnt N O V) (P : PR op rd cnt N) : Rel (cv_uF σ 49 0 0) := Rel.keep C M P lo_u0 hi_u0
