/-! 09: ONE world for the class, the reference and the law's own array: 60 cells, by their numbers.
0 CrashVault, 1 its disk, 2 FileForm, 3 Cipher (4 key, 5 chain, 6 start, 7 block), 8 ByteRow (9 bytes); of vault v (0 vault, 1 found0, 2 found1): 10+v Vault, 13+v EntryList, 16+v names, 19+v olds, 22+v values, 25+8v+i row i; 49 CrashVaultModel (50 disk, 51 names, 52 olds, 53 values, 54 state, 55 start, 56 key, 57 main, 58 file), 59 the law's out -/
/-- a state: the int arrays, the long arrays, the int fields, the long fields, each by its cell -/
abbrev cv_S : Type := (Nat → Nat → Int32) × (Nat → Nat → Int64) × (Nat → Nat → Int32) × (Nat → Nat → Int64)
/-- what stays: the classes' numbers and slots, the addresses, the arrays' classes -/
abbrev cv_E : Type := va_G × (Nat → Nat) × (Nat → ClassId)
def cv_uI (σ : cv_S) (k : Nat) (g : Nat → Int32) : cv_S := (va_up σ.1 k g, σ.2)
def cv_uJ (σ : cv_S) (k : Nat) (g : Nat → Int64) : cv_S := (σ.1, va_up σ.2.1 k g, σ.2.2)
def cv_uF (σ : cv_S) (k i : Nat) (x : Int32) : cv_S := (σ.1, σ.2.1, va_up σ.2.2.1 k (va_up (σ.2.2.1 k) i x), σ.2.2.2)
def cv_uG (σ : cv_S) (k i : Nat) (x : Int64) : cv_S := (σ.1, σ.2.1, σ.2.2.1, va_up σ.2.2.2 k (va_up (σ.2.2.2 k) i x))
def cv_kd (k : Nat) : Nat := [0, 1, 0, 0, 1, 1, 1, 1, 0, 1, 0, 0, 0, 0, 0, 0, 2, 2, 2, 1, 1, 1, 3, 3, 3, 2, 2, 2, 2, 2, 2, 2, 2, 2, 2, 2, 2, 2, 2, 2, 2, 2, 2, 2, 2, 2, 2, 2, 2, 0, 1, 2, 1, 2, 1, 1, 1, 1, 1, 2].getD k 9
def cv_ln (k : Nat) : Nat := [0, 600, 0, 0, 4, 4, 16, 16, 0, 300, 0, 0, 0, 0, 0, 0, 8, 8, 8, 8, 8, 8, 8, 8, 8, 3, 3, 3, 3, 3, 3, 3, 3, 3, 3, 3, 3, 3, 3, 3, 3, 3, 3, 3, 3, 3, 3, 3, 3, 0, 600, 8, 8, 24, 16, 16, 4, 4, 300, 1].getD k 0
/-- the objects: the number of the class, the fields -/
def cv_fs (ad : Nat → Nat) (F : Nat → Int32) (G : Nat → Int64) (k : Nat) : Nat × List Value :=
  if k = 0 then (5, [.ref (ad 1), .ref (ad 2), .ref (ad 10), .ref (ad 11), .ref (ad 12), .int (F 5), .long (G 6)])
  else if k = 2 then (3, [.ref (ad 3), .ref (ad 8)])
  else if k = 3 then (1, [.ref (ad 4), .ref (ad 5), .ref (ad 6), .ref (ad 7)])
  else if k = 8 then (0, [.ref (ad 9)])
  else if k < 13 then (4, [.ref (ad (k + 3)), .long (G 1), .int (F 2), .int (F 3), .int (F 4)])
  else if k < 16 then (2, [.ref (ad (k + 3)), .ref (ad (k + 6)), .ref (ad (k + 9)), .int (F 3)])
  else (6, [.int (F 0), .ref (ad 50), .int (F 2), .long (G 3), .long (G 4), .int (F 5), .int (F 6), .int (F 7), .int (F 8), .ref (ad 51), .ref (ad 52), .ref (ad 53), .ref (ad 54), .ref (ad 55), .ref (ad 56), .ref (ad 57), .ref (ad 58), .int (F 17)])
def cv_ct (E : cv_E) (σ : cv_S) (k : Nat) : va_E :=
  if cv_kd k = 1 then .inl (E.2.2 k, cv_ln k, .inl (σ.1 k))
  else if cv_kd k = 2 then .inl (E.2.2 k, cv_ln k, .inr (.inl (σ.2.1 k)))
  else if cv_kd k = 3 then .inl (E.2.2 k, 8, .inr (.inr (.inr (.inr (fun i => if i < 8 then some (E.2.1 (25 + 8 * (k - 22) + i)) else none)))))
  else .inr (cv_fs E.2.1 (σ.2.2.1 k) (σ.2.2.2 k) k)
def cv_W (E : cv_E) (σ : cv_S) : va_W := (List.range 60).map (fun k => (E.2.1 k, cv_ct E σ k))
def cv_A (E : cv_E) (sz : Nat) : Nat → Prop := fun q => (∃ k, k < 60 ∧ E.2.1 k = q) ∨ sz ≤ q
/-- the words of fields that are read across the nest -/
def cv_nest : List Cond := [.fieldLinkNest RX5 102 RX2 "count" "I" RX5, .fieldLinkNest RX5 118 RX2 "names" "[J" RX5, .fieldLinkNest RX5 122 RX2 "olds" "[I" RX5, .fieldLinkNest RX5 125 RX2 "values" "[[J" RX5, .fieldLinkNest RX5 142 RX3 "row" "LCrashVault$ByteRow;" RX5, .fieldLinkNest RX5 146 RX0 "bytes" "[I" RX5, .fieldLinkNest RX5 44 RX4 "password" "J" RX5, .fieldLinkNest RX5 48 RX4 "salt" "I" RX5, .fieldLinkNest RX5 52 RX4 "rounds" "I" RX5, .fieldLinkNest RX5 55 RX4 "serial" "I" RX5, .fieldLinkNest RX5 58 RX4 "list" "LCrashVault$EntryList;" RX5, .fieldLinkNest RX1 49 RX0 "bytes" "[I" RX5, .fieldLinkNest RX2 44 RX0 "bytes" "[I" RX5, .fieldLinkNest RX3 25 RX4 "list" "LCrashVault$EntryList;" RX5, .fieldLinkNest RX3 37 RX0 "bytes" "[I" RX5, .fieldLinkNest RX3 41 RX4 "serial" "I" RX5, .fieldLinkNest RX3 49 RX4 "salt" "I" RX5, .fieldLinkNest RX3 52 RX4 "rounds" "I" RX5, .fieldLinkNest RX3 55 RX4 "password" "J" RX5]
def cv_isNest (w : Cond) : Bool := match w with
  | .fieldLinkNest _ _ _ _ _ _ => true
  | _ => false
theorem cv_nest_all : ∀ w ∈ cv_nest, cv_isNest w = true := by decide +kernel
/-- what a method may take as given of the machine, beside its words -/
def cv_K (E : cv_E) (U : State) : Prop := va_K E.1 vwCl [] U ∧ (∀ k, k < 60 → cv_kd k = 1 → ArrOfT U (E.2.2 k) .int ∧ va_RA U (E.2.2 k) .int) ∧ (∀ k, k < 60 → cv_kd k = 2 → ArrOfT U (E.2.2 k) .long ∧ va_RA U (E.2.2 k) .long) ∧ (∀ k, k < 60 → cv_kd k = 3 → ArrOfT U (E.2.2 k) (.array .long) ∧ va_RA U (E.2.2 k) (.array .long)) ∧ (∀ i j, i < 60 → j < 60 → E.2.1 i = E.2.1 j → i = j) ∧ (∀ w ∈ cv_nest, va_Nw w U)
theorem cv_nest_warm {s U : State} (hW : s.WarmedH U.vm) (h : ∀ w ∈ cv_nest, va_Nw w s) : ∀ w ∈ cv_nest, va_Nw w U := by
  intro w hw
  have h1 := cv_nest_all w hw
  have h2 := h w hw
  cases w <;> first | (simp [cv_isNest] at h1; done) | exact va_Nw.warmF hW h2
theorem cv_nest_same {s U : State} (hv : s.vm = U.vm) (h : ∀ w ∈ cv_nest, va_Nw w s) : ∀ w ∈ cv_nest, va_Nw w U := by
  intro w hw
  have h1 := cv_nest_all w hw
  have h2 := h w hw
  cases w <;> first | (simp [cv_isNest] at h1; done) | exact va_Nw.same rfl hv h2
theorem cv_K.alike {E : cv_E} {s U : State} (hvm : s.vm.Alike U.vm) (hn : ∀ w ∈ cv_nest, va_Nw w U) (K : cv_K E s) : cv_K E U :=
  ⟨va_K.moved hvm K.1, fun k h1 h2 => ⟨arrOfT_moved hvm (K.2.1 k h1 h2).1, (K.2.1 k h1 h2).2.moved hvm⟩, fun k h1 h2 => ⟨arrOfT_moved hvm (K.2.2.1 k h1 h2).1, (K.2.2.1 k h1 h2).2.moved hvm⟩, fun k h1 h2 => ⟨arrOfT_moved hvm (K.2.2.2.1 k h1 h2).1, (K.2.2.2.1 k h1 h2).2.moved hvm⟩, K.2.2.2.2.1, hn⟩
theorem cv_K.warm {E : cv_E} {s U : State} (hW : s.WarmedH U.vm) (K : cv_K E s) : cv_K E U := K.alike hW.alike (cv_nest_warm hW K.2.2.2.2.2)
theorem cv_K.same {E : cv_E} {s U : State} (hv : s.vm = U.vm) (K : cv_K E s) : cv_K E U := K.alike (by rw [hv]; exact Vm.Alike.refl U.vm) (cv_nest_same hv K.2.2.2.2.2)
theorem cv_Wget (E : cv_E) (σ : cv_S) {k : Nat} (hk : k < 60) : (cv_W E σ)[k]? = some (E.2.1 k, cv_ct E σ k) := by
  unfold cv_W
  rw [List.getElem?_map, List.getElem?_range hk]
  rfl
theorem cv_Wlen (E : cv_E) (σ : cv_S) : (cv_W E σ).length = 60 := by
  unfold cv_W
  rw [List.length_map, List.length_range]
theorem cv_Wnone (E : cv_E) (σ : cv_S) {k : Nat} (hk : 60 ≤ k) : (cv_W E σ)[k]? = none := List.getElem?_eq_none (by rw [cv_Wlen]; exact hk)
theorem cv_Wset {E : cv_E} {σ σ' : cv_S} {k : Nat} {e : va_E} (hk : k < 60) (h1 : cv_ct E σ' k = e) (h2 : ∀ j, j ≠ k → cv_ct E σ' j = cv_ct E σ j) : (cv_W E σ).set k (E.2.1 k, e) = cv_W E σ' := by
  apply List.ext_getElem?
  intro j
  by_cases hj : j = k
  · subst hj
    rw [List.getElem?_set_self (by rw [cv_Wlen]; exact hk), cv_Wget E σ' hk, h1]
  · rw [List.getElem?_set_ne (fun q => hj q.symm)]
    by_cases h60 : j < 60
    · rw [cv_Wget E σ h60, cv_Wget E σ' h60, h2 j hj]
    · rw [cv_Wnone E σ (by omega), cv_Wnone E σ' (by omega)]
theorem cv_D {E : cv_E} {U : State} (K : cv_K E U) (σ : cv_S) (sz : Nat) : va_D (cv_A E sz) (cv_W E σ) := by
  refine ⟨fun i j p q hi hj e => ?_, fun k q hk => ?_⟩
  · have h1 : i < 60 := by rw [← cv_Wlen E σ]; exact (List.getElem?_eq_some_iff.mp hi).1
    have h2 : j < 60 := by rw [← cv_Wlen E σ]; exact (List.getElem?_eq_some_iff.mp hj).1
    rw [cv_Wget E σ h1] at hi
    rw [cv_Wget E σ h2] at hj
    cases hi
    cases hj
    exact K.2.2.2.2.1 i j h1 h2 e
  · have h1 : k < 60 := by rw [← cv_Wlen E σ]; exact (List.getElem?_eq_some_iff.mp hk).1
    rw [cv_Wget E σ h1] at hk
    cases hk
    exact Or.inl ⟨k, h1, rfl⟩
theorem cv_ctI {E : cv_E} {σ : cv_S} {k : Nat} (h : cv_kd k = 1) : cv_ct E σ k = .inl (E.2.2 k, cv_ln k, .inl (σ.1 k)) := by
  unfold cv_ct; rw [if_pos h]
theorem cv_ctJ {E : cv_E} {σ : cv_S} {k : Nat} (h : cv_kd k = 2) : cv_ct E σ k = .inl (E.2.2 k, cv_ln k, .inr (.inl (σ.2.1 k))) := by
  unfold cv_ct; rw [if_neg (by omega), if_pos h]
theorem cv_ctQ {E : cv_E} {σ : cv_S} {k : Nat} (h : cv_kd k = 3) : cv_ct E σ k = .inl (E.2.2 k, 8, .inr (.inr (.inr (.inr (fun i => if i < 8 then some (E.2.1 (25 + 8 * (k - 22) + i)) else none))))) := by
  unfold cv_ct; rw [if_neg (by omega), if_neg (by omega), if_pos h]
theorem cv_ctO {E : cv_E} {σ : cv_S} {k : Nat} (h : cv_kd k = 0) : cv_ct E σ k = .inr (cv_fs E.2.1 (σ.2.2.1 k) (σ.2.2.2 k) k) := by
  unfold cv_ct; rw [if_neg (by omega), if_neg (by omega), if_neg (by omega)]
theorem cv_lt {k n : Nat} (h : cv_kd k = n) (hn : n ≠ 9) : k < 60 := by
  rcases Nat.lt_or_ge k 60 with q | q
  · exact q
  · exfalso
    apply hn
    rw [← h]
    unfold cv_kd
    rw [List.getD_eq_getElem?_getD, List.getElem?_eq_none (by simpa using q)]
    rfl
theorem cv_ct_ne {E : cv_E} {σ σ' : cv_S} {j : Nat} (h1 : σ'.1 j = σ.1 j) (h2 : σ'.2.1 j = σ.2.1 j) (h3 : σ'.2.2.1 j = σ.2.2.1 j) (h4 : σ'.2.2.2 j = σ.2.2.2 j) : cv_ct E σ' j = cv_ct E σ j := by
  unfold cv_ct
  rw [h1, h2, h3, h4]
theorem cv_setI {E : cv_E} {σ : cv_S} {k : Nat} (h : cv_kd k = 1) (g : Nat → Int32) : (cv_W E σ).set k (E.2.1 k, .inl (E.2.2 k, cv_ln k, .inl g)) = cv_W E (cv_uI σ k g) := by
  refine cv_Wset (cv_lt h (by decide)) ?_ (fun j hj => ?_)
  · rw [cv_ctI h]
    simp [cv_uI, va_up]
  · exact cv_ct_ne (by simp [cv_uI, va_up, hj]) rfl rfl rfl
theorem cv_setJ {E : cv_E} {σ : cv_S} {k : Nat} (h : cv_kd k = 2) (g : Nat → Int64) : (cv_W E σ).set k (E.2.1 k, .inl (E.2.2 k, cv_ln k, .inr (.inl g))) = cv_W E (cv_uJ σ k g) := by
  refine cv_Wset (cv_lt h (by decide)) ?_ (fun j hj => ?_)
  · rw [cv_ctJ h]
    simp [cv_uJ, va_up]
  · exact cv_ct_ne rfl (by simp [cv_uJ, va_up, hj]) rfl rfl
theorem cv_setF {E : cv_E} {σ : cv_S} {k i : Nat} {x : Int32} {ci : Nat} {fs : List Value} (h : cv_kd k = 0) (hs : cv_fs E.2.1 (va_up (σ.2.2.1 k) i x) (σ.2.2.2 k) k = (ci, fs)) : (cv_W E σ).set k (E.2.1 k, .inr (ci, fs)) = cv_W E (cv_uF σ k i x) := by
  refine cv_Wset (cv_lt h (by decide)) ?_ (fun j hj => ?_)
  · rw [cv_ctO h, ← hs]
    simp [cv_uF, va_up]
  · exact cv_ct_ne rfl rfl (by simp [cv_uF, va_up, hj]) rfl
theorem cv_setG {E : cv_E} {σ : cv_S} {k i : Nat} {x : Int64} {ci : Nat} {fs : List Value} (h : cv_kd k = 0) (hs : cv_fs E.2.1 (σ.2.2.1 k) (va_up (σ.2.2.2 k) i x) k = (ci, fs)) : (cv_W E σ).set k (E.2.1 k, .inr (ci, fs)) = cv_W E (cv_uG σ k i x) := by
  refine cv_Wset (cv_lt h (by decide)) ?_ (fun j hj => ?_)
  · rw [cv_ctO h, ← hs]
    simp [cv_uG, va_up]
  · exact cv_ct_ne rfl rfl rfl (by simp [cv_uG, va_up, hj])
/-- the world at a point of a method: the cells hold σ, and nothing else has changed since the method's entry -/
def cv_H (E : cv_E) (σ : cv_S) (s : State) (H : Heap) (locs : List Loc) : Prop := va_P E.1 vwCl (cv_W E σ) H ∧ va_S (cv_A E s.heap.size) s.heap H locs
theorem cv_K.tI {E : cv_E} {U : State} (K : cv_K E U) {k : Nat} (h : cv_kd k = 1) : va_K E.1 vwCl [(E.2.2 k, .int)] U := ⟨K.1.1, fun j q hq => by
  match j, hq with
  | 0, hq => cases hq; exact K.2.1 k (cv_lt h (by decide)) h⟩
theorem cv_K.tJ {E : cv_E} {U : State} (K : cv_K E U) {k : Nat} (h : cv_kd k = 2) : va_K E.1 vwCl [(E.2.2 k, .long)] U := ⟨K.1.1, fun j q hq => by
  match j, hq with
  | 0, hq => cases hq; exact K.2.2.1 k (cv_lt h (by decide)) h⟩
theorem cv_K.tQ {E : cv_E} {U : State} (K : cv_K E U) {k : Nat} (h : cv_kd k = 3) : ArrOfT U (E.2.2 k) (.array .long) := (K.2.2.2.1 k (cv_lt h (by decide)) h).1
theorem cv_inI {i : Int32} {j n : Nat} (hi : i = nI j) (hj : j < n) (hn : n < 2 ^ 31) : vp_in i n := by rw [hi]; exact vp_in_nI hj hn
theorem cv_ln_lt (k : Nat) : cv_ln k < 2 ^ 31 := by
  rcases Nat.lt_or_ge k 60 with q | q
  · have h : ∀ k, k < 60 → cv_ln k < 2 ^ 31 := by decide +kernel
    exact h k q
  · unfold cv_ln
    rw [List.getD_eq_getElem?_getD, List.getElem?_eq_none (by simpa using q)]
    decide
theorem cv_cl {i : Int32} {j n : Nat} (hi : i = nI j) (hj : j < n) (hn : n < 2 ^ 31) : i.toNatClampNeg = j := by rw [hi]; exact nI_clamp (by omega)
