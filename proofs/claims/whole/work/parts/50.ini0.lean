/-! 50: constructors: their form, a call of one in any world -/
def ini_N : List Cond := [.methodLinkNest RX5 15 yX3_init RX5, .methodLinkNest RX3 13 yX1_init RX5, .methodLinkNest RX3 20 yX0_init RX5, .methodLinkNest RX5 22 yX4_init RX5, .methodLinkNest RX4 9 yX2_init RX5]
def ini_isN (w : Cond) : Bool := match w with
  | .methodLinkNest _ _ _ _ => true
  | _ => false
theorem ini_N_all : ∀ w ∈ ini_N, ini_isN w = true := by decide +kernel
def cv_KI (U : State) : Prop := (∀ w ∈ ini_N, va_Nw w U) ∧ va_AOA .long U
theorem cv_KI.warm {s U : State} (hW : s.WarmedH U.vm) (h : cv_KI s) : cv_KI U := by
  refine ⟨fun w hw => ?_, fun a => over_moved hW.alike (h.2 #[])⟩
  have h1 := ini_N_all w hw
  have h2 := h.1 w hw
  cases w <;> first | (simp [ini_isN] at h1; done) | exact va_Nw.warmM hW h2
theorem cv_KI.same {s U : State} (hv : s.vm = U.vm) (h : cv_KI s) : cv_KI U := by
  refine ⟨fun w hw => ?_, fun a => over_moved (by rw [hv]; exact Vm.Alike.refl U.vm) (h.2 #[])⟩
  have h1 := ini_N_all w hw
  have h2 := h.1 w hw
  cases w <;> first | (simp [ini_isN] at h1; done) | exact va_Nw.same rfl hv h2
abbrev ini_S : Type := (Nat → Nat) × (Nat → ClassId) × (Nat → Nat → Nat)
abbrev ini_P (D : va_G) (o : Nat × va_E) (sz : Nat) : State → Prop := fun U => U.heap.size = sz ∧ va_P D vwCl [o] U.heap ∧ va_K D vwCl [] U ∧ va_D (fun _ => True) [o] ∧ cv_KI U
abbrev ini_B (D : va_G) (o : Nat × va_E) (sz : Nat) (w : ini_S → va_W) (ty : ini_S → List (ClassId × FieldType)) : ini_S → State → Prop := fun u t => va_P D vwCl (w u) t.heap ∧ va_K D vwCl (ty u) t ∧ va_D (va_A [o] sz) (w u)
abbrev ini_M (l : Launch) (D : va_G) (y : MethodName) (ws : List Cond) (fr cn sn q : Nat) (e : va_E) (w : ini_S → va_W) (ty : ini_S → List (ClassId × FieldType)) : Prop :=
  ∀ sz : Nat, Met l y ws { frames := fr, cells := cn, slots := sn, locals := 30 * fr } (va_Pc [.ref q] (ini_P D (q, e) sz)) (va_Qv (fun _ : ini_S => True) (ini_B D (q, e) sz w ty) (va_A [(q, e)] sz)) cn sn (va_A [(q, e)] sz)
theorem ini_blind (D : va_G) (o : Nat × va_E) (sz : Nat) (av : List Value) : FrameBlind (va_Pc av (ini_P D o sz)) := fun a U g mk q => by
  obtain ⟨q0, q1, qP, qK, qD, qI⟩ := q
  exact ⟨q0, q1, qP, va_K.moved (u := U) (U := U.calling g mk a) (Vm.Alike.refl U.vm) qK, qD, cv_KI.same (s := U) (U := U.calling g mk a) rfl qI⟩
theorem va_A_one {o : Nat × va_E} {sz a : Nat} (h : va_A [o] sz a) : o.1 = a ∨ sz ≤ a := by
  rcases h with ⟨k, e, h⟩ | h
  · match k, h with
    | 0, h => cases h; exact Or.inl rfl
  · exact Or.inr h
section INI
variable {p : Program} {l : Launch} {e : Env} {R : Room} {s : State} {m : MethodId} {args : Array Value} {below : List Frame} {meth : Method} {c : Code} {H : Heap} {locs : List Loc} {cells slots : Nat} {Q : State → Prop}
variable {cc : ByteArray} {pc nL : Nat} {ls : Array Slot} {rest : List Value} {D : va_G} {A : Nat → Prop} {tys : List (ClassId × FieldType)} {X : va_W} {q cn sn : Nat} {eo : va_E} {w : ini_S → va_W} {ty : ini_S → List (ClassId × FieldType)}
theorem ini_last (hP : va_P D vwCl (X ++ [(q, eo)]) H) : va_P D vwCl [(q, eo)] H := fun k x hx => by
  match k, hx with
  | 0, hx => exact hP X.length x (by rw [List.getElem?_append_right (Nat.le_refl _), Nat.sub_self]; exact hx)
theorem ini_one : va_D (fun _ => True) [(q, eo)] := ⟨fun i j x y hi hj _ => by
  have h1 : i < 1 := (List.getElem?_eq_some_iff.mp hi).1
  have h2 : j < 1 := (List.getElem?_eq_some_iff.mp hj).1
  omega, fun _ _ _ => trivial⟩
theorem ini_free (hD : va_D A (X ++ [(q, eo)])) (hS : va_S A s.heap H locs) (hA : ∀ q, s.heap.size ≤ q → A q) : ∀ a, va_A [(q, eo)] H.size a → A a := fun a h => by
  rcases va_A_one h with h | h
  · rw [← h]; exact hD.2 X.length (q, eo) (by rw [List.getElem?_append_right (Nat.le_refl _), Nat.sub_self]; rfl)
  · exact hA a (Nat.le_trans hS.1 h)
theorem ini_sep (hP : va_P D vwCl (X ++ [(q, eo)]) H) (hD : va_D A (X ++ [(q, eo)])) {k : Nat} {x : Nat × va_E} (hx : X[k]? = some x) : x.1 < H.size ∧ x.1 ≠ q := by
  have hk : k < X.length := (List.getElem?_eq_some_iff.mp hx).1
  have hx' : (X ++ [(q, eo)])[k]? = some x := by rw [List.getElem?_append_left hk]; exact hx
  refine ⟨(hP k x hx').lt, fun z => ?_⟩
  have := hD.1 k X.length x (q, eo) hx' (by rw [List.getElem?_append_right (Nat.le_refl _), Nat.sub_self]; rfl) z
  omega
theorem ini_core (hr : va_Run p l e R s m args below meth c H locs cells slots cn sn (F0 m pc ls (.ref q :: rest)) rest (va_Qv (fun _ : ini_S => True) (ini_B D (q, eo) H.size w ty) (va_A [(q, eo)] H.size) [Value.ref q].toArray) (va_A [(q, eo)] H.size)) (hK : va_K D vwCl tys s) (hP : va_P D vwCl (X ++ [(q, eo)]) H) (hD : va_D A (X ++ [(q, eo)])) (hS : va_S A s.heap H locs) (hA : ∀ q, s.heap.size ≤ q → A q)
    (kk : ∀ (u : ini_S) (H1 : Heap) (locs1 : List Loc), va_K D vwCl (tys ++ ty u) s → va_P D vwCl (X ++ w u) H1 → va_D A (X ++ w u) → va_S A s.heap H1 locs1 → W p l e R s m args below meth c H1 locs1 (cells + cn) (slots + sn) Q (F0 m (pc + 3) ls rest)) : W p l e R s m args below meth c H locs cells slots Q (F0 m pc ls (.ref q :: rest)) := by
  have hF := ini_free hD hS hA
  refine va_callv hr hS (fun a _ h => hF a h) hF (fun u t H1 locs1 ht hvm _ hB _ hk hS1 => ?_)
  obtain ⟨b1, b2, b3⟩ := hB
  rw [ht] at b1
  refine kk u H1 locs1 (hK.app (va_K.moved hvm.symm b2)) (va_P.app (fun k x hx => ?_) b1) ?_ hS1
  · obtain ⟨g1, g2⟩ := ini_sep hP hD hx
    have hkk : k < X.length := (List.getElem?_eq_some_iff.mp hx).1
    exact (hP k x (by rw [List.getElem?_append_left hkk]; exact hx)).kept (hk x.1 g1 (fun z => by
      rcases va_A_one z with z | z
      · exact g2 z.symm
      · exact absurd z (Nat.not_le.mpr g1)))
  · have hsep : ∀ (i j : Nat) (x y : Nat × va_E), X[i]? = some x → (w u)[j]? = some y → x.1 ≠ y.1 := fun i j x y hx hy z => by
      obtain ⟨g1, g2⟩ := ini_sep hP hD hx
      rcases va_A_one (b3.2 j y hy) with h | h
      · exact g2 (z.trans h.symm)
      · rw [← z] at h; exact absurd h (Nat.not_le.mpr g1)
    refine ⟨fun i j x y hi hj hxy => ?_, fun k x hx => ?_⟩
    · by_cases h1 : i < X.length <;> by_cases h2 : j < X.length
      · rw [List.getElem?_append_left h1] at hi
        rw [List.getElem?_append_left h2] at hj
        exact hD.1 i j x y (by rw [List.getElem?_append_left h1]; exact hi) (by rw [List.getElem?_append_left h2]; exact hj) hxy
      · rw [List.getElem?_append_left h1] at hi
        rw [List.getElem?_append_right (by omega)] at hj
        exact absurd hxy (hsep _ _ _ _ hi hj)
      · rw [List.getElem?_append_right (by omega)] at hi
        rw [List.getElem?_append_left h2] at hj
        exact absurd hxy.symm (hsep _ _ _ _ hj hi)
      · rw [List.getElem?_append_right (by omega)] at hi hj
        have := b3.1 _ _ _ _ hi hj hxy
        omega
    · by_cases h1 : k < X.length
      · rw [List.getElem?_append_left h1] at hx
        exact hD.2 k x (by rw [List.getElem?_append_left h1]; exact hx)
      · rw [List.getElem?_append_right (by omega)] at hx
        exact hF _ (b3.2 _ _ hx)
variable {y : MethodName} {ws Ts : List Cond} {bytes : ByteArray} {maxL index fr : Nat} {own host : String}
theorem ini_pre (hK : va_K D vwCl tys s) (hI : cv_KI s) (hP : va_P D vwCl (X ++ [(q, eo)]) H) : PreS s H (va_Pc [.ref q] (ini_P D (q, eo) H.size)) [.ref q] :=
  ⟨ini_blind D _ _ _, fun U hU hW => ⟨rfl, by rw [hU], by rw [hU]; exact ini_last hP, va_K.moved hW.alike (hK.sub (tys' := []) [] rfl), ini_one, hI.warm hW⟩⟩
/-- a constructor of a nest mate is called -/
theorem ini_callN (S : CallFix p m c cc nL s args Ts own) (hM : ini_M l D y ws fr cn sn q eo w ty) (cw : va_CN R s args own index y host bytes maxL none ws { frames := fr, cells := cn, slots := sn, locals := 30 * fr } cn sn 0 ∧ y.name = "<init>" ∧ (Cond.instanceMethod y).before args s = true) (hK : va_K D vwCl tys s) (hI : cv_KI s) (hP : va_P D vwCl (X ++ [(q, eo)]) H) (hD : va_D A (X ++ [(q, eo)])) (hS : va_S A s.heap H locs) (hA : ∀ q, s.heap.size ≤ q → A q) (hls : ls.size = nL) (hW : (rest.map fun v => v.category).sum ≤ 8) (hcs : cells + cn ≤ R.cells ∧ slots + sn ≤ R.slots) (hdg : decode cc pc = .ok (.invokespecial index, 3))
    (kk : ∀ (u : ini_S) (H1 : Heap) (locs1 : List Loc), va_K D vwCl (tys ++ ty u) s → va_P D vwCl (X ++ w u) H1 → va_D A (X ++ w u) → va_S A s.heap H1 locs1 → W p l e R s m args below meth c H1 locs1 (cells + cn) (slots + sn) Q (F0 m (pc + 3) ls rest)) : W p l e R s m args below meth c H locs cells slots Q (F0 m pc ls (.ref q :: rest)) :=
  ini_core (va_runIN (As := []) (rest := rest) S (hM H.size) cw (ini_pre hK hI hP) rfl rfl hls rfl (lv_room hW) hdg hcs) hK hP hD hS hA kk
/-- a constructor is called -/
theorem ini_call (S : CallFix p m c cc nL s args Ts own) (hM : ini_M l D y ws fr cn sn q eo w ty) (cw : CallB R s args own index y bytes maxL none ws { frames := fr, cells := cn, slots := sn, locals := 30 * fr } cn sn 0 ∧ y.name = "<init>" ∧ (Cond.instanceMethod y).before args s = true) (hK : va_K D vwCl tys s) (hI : cv_KI s) (hP : va_P D vwCl (X ++ [(q, eo)]) H) (hD : va_D A (X ++ [(q, eo)])) (hS : va_S A s.heap H locs) (hA : ∀ q, s.heap.size ≤ q → A q) (hls : ls.size = nL) (hW : (rest.map fun v => v.category).sum ≤ 8) (hcs : cells + cn ≤ R.cells ∧ slots + sn ≤ R.slots) (hdg : decode cc pc = .ok (.invokespecial index, 3))
    (kk : ∀ (u : ini_S) (H1 : Heap) (locs1 : List Loc), va_K D vwCl (tys ++ ty u) s → va_P D vwCl (X ++ w u) H1 → va_D A (X ++ w u) → va_S A s.heap H1 locs1 → W p l e R s m args below meth c H1 locs1 (cells + cn) (slots + sn) Q (F0 m (pc + 3) ls rest)) : W p l e R s m args below meth c H locs cells slots Q (F0 m pc ls (.ref q :: rest)) :=
  ini_core (va_runI (As := []) (rest := rest) S (hM H.size) cw (ini_pre hK hI hP) rfl rfl hls rfl (lv_room hW) hdg hcs) hK hP hD hS hA kk
end INI
