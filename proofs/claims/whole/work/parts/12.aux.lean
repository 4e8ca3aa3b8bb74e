/-! 12: small rows: the nest's words, the slots that are written, loops, states -/
theorem cv_nest_0 {E : cv_E} {s : State} {args : Array Value} (K : cv_K E s) : (Cond.fieldLinkNest RX5 102 RX2 "count" "I" RX5).before args s = true := va_Nw.use rfl (K.2.2.2.2.2 _ (List.mem_of_getElem? (i := 0) rfl))
theorem cv_nest_1 {E : cv_E} {s : State} {args : Array Value} (K : cv_K E s) : (Cond.fieldLinkNest RX5 118 RX2 "names" "[J" RX5).before args s = true := va_Nw.use rfl (K.2.2.2.2.2 _ (List.mem_of_getElem? (i := 1) rfl))
theorem cv_nest_2 {E : cv_E} {s : State} {args : Array Value} (K : cv_K E s) : (Cond.fieldLinkNest RX5 122 RX2 "olds" "[I" RX5).before args s = true := va_Nw.use rfl (K.2.2.2.2.2 _ (List.mem_of_getElem? (i := 2) rfl))
theorem cv_nest_3 {E : cv_E} {s : State} {args : Array Value} (K : cv_K E s) : (Cond.fieldLinkNest RX5 125 RX2 "values" "[[J" RX5).before args s = true := va_Nw.use rfl (K.2.2.2.2.2 _ (List.mem_of_getElem? (i := 3) rfl))
theorem cv_nest_4 {E : cv_E} {s : State} {args : Array Value} (K : cv_K E s) : (Cond.fieldLinkNest RX5 142 RX3 "row" "LCrashVault$ByteRow;" RX5).before args s = true := va_Nw.use rfl (K.2.2.2.2.2 _ (List.mem_of_getElem? (i := 4) rfl))
theorem cv_nest_5 {E : cv_E} {s : State} {args : Array Value} (K : cv_K E s) : (Cond.fieldLinkNest RX5 146 RX0 "bytes" "[I" RX5).before args s = true := va_Nw.use rfl (K.2.2.2.2.2 _ (List.mem_of_getElem? (i := 5) rfl))
theorem cv_nest_6 {E : cv_E} {s : State} {args : Array Value} (K : cv_K E s) : (Cond.fieldLinkNest RX5 44 RX4 "password" "J" RX5).before args s = true := va_Nw.use rfl (K.2.2.2.2.2 _ (List.mem_of_getElem? (i := 6) rfl))
theorem cv_nest_7 {E : cv_E} {s : State} {args : Array Value} (K : cv_K E s) : (Cond.fieldLinkNest RX5 48 RX4 "salt" "I" RX5).before args s = true := va_Nw.use rfl (K.2.2.2.2.2 _ (List.mem_of_getElem? (i := 7) rfl))
theorem cv_nest_8 {E : cv_E} {s : State} {args : Array Value} (K : cv_K E s) : (Cond.fieldLinkNest RX5 52 RX4 "rounds" "I" RX5).before args s = true := va_Nw.use rfl (K.2.2.2.2.2 _ (List.mem_of_getElem? (i := 8) rfl))
theorem cv_nest_9 {E : cv_E} {s : State} {args : Array Value} (K : cv_K E s) : (Cond.fieldLinkNest RX5 55 RX4 "serial" "I" RX5).before args s = true := va_Nw.use rfl (K.2.2.2.2.2 _ (List.mem_of_getElem? (i := 9) rfl))
theorem cv_nest_10 {E : cv_E} {s : State} {args : Array Value} (K : cv_K E s) : (Cond.fieldLinkNest RX5 58 RX4 "list" "LCrashVault$EntryList;" RX5).before args s = true := va_Nw.use rfl (K.2.2.2.2.2 _ (List.mem_of_getElem? (i := 10) rfl))
theorem cv_nest_11 {E : cv_E} {s : State} {args : Array Value} (K : cv_K E s) : (Cond.fieldLinkNest RX1 49 RX0 "bytes" "[I" RX5).before args s = true := va_Nw.use rfl (K.2.2.2.2.2 _ (List.mem_of_getElem? (i := 11) rfl))
theorem cv_nest_12 {E : cv_E} {s : State} {args : Array Value} (K : cv_K E s) : (Cond.fieldLinkNest RX2 44 RX0 "bytes" "[I" RX5).before args s = true := va_Nw.use rfl (K.2.2.2.2.2 _ (List.mem_of_getElem? (i := 12) rfl))
theorem cv_nest_13 {E : cv_E} {s : State} {args : Array Value} (K : cv_K E s) : (Cond.fieldLinkNest RX3 25 RX4 "list" "LCrashVault$EntryList;" RX5).before args s = true := va_Nw.use rfl (K.2.2.2.2.2 _ (List.mem_of_getElem? (i := 13) rfl))
theorem cv_nest_14 {E : cv_E} {s : State} {args : Array Value} (K : cv_K E s) : (Cond.fieldLinkNest RX3 37 RX0 "bytes" "[I" RX5).before args s = true := va_Nw.use rfl (K.2.2.2.2.2 _ (List.mem_of_getElem? (i := 14) rfl))
theorem cv_nest_15 {E : cv_E} {s : State} {args : Array Value} (K : cv_K E s) : (Cond.fieldLinkNest RX3 41 RX4 "serial" "I" RX5).before args s = true := va_Nw.use rfl (K.2.2.2.2.2 _ (List.mem_of_getElem? (i := 15) rfl))
theorem cv_nest_16 {E : cv_E} {s : State} {args : Array Value} (K : cv_K E s) : (Cond.fieldLinkNest RX3 49 RX4 "salt" "I" RX5).before args s = true := va_Nw.use rfl (K.2.2.2.2.2 _ (List.mem_of_getElem? (i := 16) rfl))
theorem cv_nest_17 {E : cv_E} {s : State} {args : Array Value} (K : cv_K E s) : (Cond.fieldLinkNest RX3 52 RX4 "rounds" "I" RX5).before args s = true := va_Nw.use rfl (K.2.2.2.2.2 _ (List.mem_of_getElem? (i := 17) rfl))
theorem cv_nest_18 {E : cv_E} {s : State} {args : Array Value} (K : cv_K E s) : (Cond.fieldLinkNest RX3 55 RX4 "password" "J" RX5).before args s = true := va_Nw.use rfl (K.2.2.2.2.2 _ (List.mem_of_getElem? (i := 18) rfl))
theorem cv_pok_X2_3 : cv_pok RX2 TX2 4 3 tyX2 .int := ⟨by decide, tyX2_ok, nmX2, rfl, by decide +kernel⟩
theorem cv_pok_X4_1 : cv_pok RX4 TX4 5 1 tyX4 .long := ⟨by decide, tyX4_ok, nmX4, rfl, by decide +kernel⟩
theorem cv_pok_X4_2 : cv_pok RX4 TX4 5 2 tyX4 .int := ⟨by decide, tyX4_ok, nmX4, rfl, by decide +kernel⟩
theorem cv_pok_X4_3 : cv_pok RX4 TX4 5 3 tyX4 .int := ⟨by decide, tyX4_ok, nmX4, rfl, by decide +kernel⟩
theorem cv_pok_X4_4 : cv_pok RX4 TX4 5 4 tyX4 .int := ⟨by decide, tyX4_ok, nmX4, rfl, by decide +kernel⟩
theorem cv_pok_X5_5 : cv_pok RX5 TX5 7 5 tyX5 .boolean := ⟨by decide, tyX5_ok, nmX5, rfl, by decide +kernel⟩
theorem cv_pok_X5_6 : cv_pok RX5 TX5 7 6 tyX5 .long := ⟨by decide, tyX5_ok, nmX5, rfl, by decide +kernel⟩
theorem cv_pok_X6_0 : cv_pok RX6 TX6 18 0 tyX6 .int := ⟨by decide, tyX6_ok, nmX6, rfl, by decide +kernel⟩
theorem cv_pok_X6_2 : cv_pok RX6 TX6 18 2 tyX6 .boolean := ⟨by decide, tyX6_ok, nmX6, rfl, by decide +kernel⟩
theorem cv_pok_X6_3 : cv_pok RX6 TX6 18 3 tyX6 .long := ⟨by decide, tyX6_ok, nmX6, rfl, by decide +kernel⟩
theorem cv_pok_X6_4 : cv_pok RX6 TX6 18 4 tyX6 .long := ⟨by decide, tyX6_ok, nmX6, rfl, by decide +kernel⟩
theorem cv_pok_X6_5 : cv_pok RX6 TX6 18 5 tyX6 .int := ⟨by decide, tyX6_ok, nmX6, rfl, by decide +kernel⟩
theorem cv_pok_X6_6 : cv_pok RX6 TX6 18 6 tyX6 .int := ⟨by decide, tyX6_ok, nmX6, rfl, by decide +kernel⟩
theorem cv_pok_X6_7 : cv_pok RX6 TX6 18 7 tyX6 .int := ⟨by decide, tyX6_ok, nmX6, rfl, by decide +kernel⟩
theorem cv_pok_X6_8 : cv_pok RX6 TX6 18 8 tyX6 .int := ⟨by decide, tyX6_ok, nmX6, rfl, by decide +kernel⟩
theorem cv_pok_X6_17 : cv_pok RX6 TX6 18 17 tyX6 .int := ⟨by decide, tyX6_ok, nmX6, rfl, by decide +kernel⟩

/-- a counted loop whose head is at pc: the state and the locals by the count -/
theorem cv_loop {p : Program} {l : Launch} {e : Env} {R : Room} {s : State} {m : MethodId} {args : Array Value} {below : List Frame} {meth : Method} {c : Code} {cells slots : Nat} {Q : State → Prop} {pc nL : Nat} {st : List Value} {E : cv_E} {α : Type} (N : Nat) (I : Nat → α → cv_S → Prop) (lvs : Nat → α → List (Nat × Value))
    (step : ∀ (i : Nat) (a : α) (σ : cv_S) (H : Heap) (locs : List Loc) (ls : Array Slot), i < N → I i a σ → cv_H E σ s H locs → lv_has ls nL (lvs i a) → (∀ (a' : α) (σ' : cv_S) (H' : Heap) (locs' : List Loc) (ls' : Array Slot), I (i + 1) a' σ' → cv_H E σ' s H' locs' → lv_has ls' nL (lvs (i + 1) a') → W p l e R s m args below meth c H' locs' cells slots Q (F0 m pc ls' st)) → W p l e R s m args below meth c H locs cells slots Q (F0 m pc ls st))
    (leave : ∀ (a : α) (σ : cv_S) (H : Heap) (locs : List Loc) (ls : Array Slot), I N a σ → cv_H E σ s H locs → lv_has ls nL (lvs N a) → W p l e R s m args below meth c H locs cells slots Q (F0 m pc ls st)) :
    ∀ (i : Nat) (a : α) (σ : cv_S) (H : Heap) (locs : List Loc) (ls : Array Slot), i ≤ N → I i a σ → cv_H E σ s H locs → lv_has ls nL (lvs i a) → W p l e R s m args below meth c H locs cells slots Q (F0 m pc ls st) := by
  have key : ∀ (d i : Nat), i + d = N → ∀ (a : α) (σ : cv_S) (H : Heap) (locs : List Loc) (ls : Array Slot), I i a σ → cv_H E σ s H locs → lv_has ls nL (lvs i a) → W p l e R s m args below meth c H locs cells slots Q (F0 m pc ls st) := by
    intro d
    induction d with
    | zero =>
      intro i hi a σ H locs ls hI h hl
      have e : i = N := by omega
      subst e
      exact leave a σ H locs ls hI h hl
    | succ d ih =>
      intro i hi a σ H locs ls hI h hl
      exact step i a σ H locs ls (by omega) hI h hl (fun a' σ' H' locs' ls' hI' h' hl' => ih (i + 1) (by omega) a' σ' H' locs' ls' hI' h' hl')
  intro i a σ H locs ls hi hI h hl
  exact key (N - i) i (by omega) a σ H locs ls hI h hl
theorem cv_rei {p : Program} {l : Launch} {e : Env} {R : Room} {s : State} {m : MethodId} {args : Array Value} {below : List Frame} {meth : Method} {c : Code} {H : Heap} {locs : List Loc} {cells slots : Nat} {Q : State → Prop} {pc : Nat} {ls : Array Slot} {rest : List Value} {x y : Int32} (h : x = y) (k : W p l e R s m args below meth c H locs cells slots Q (F0 m pc ls (.int y :: rest))) : W p l e R s m args below meth c H locs cells slots Q (F0 m pc ls (.int x :: rest)) := by rw [h]; exact k
theorem cv_rel {p : Program} {l : Launch} {e : Env} {R : Room} {s : State} {m : MethodId} {args : Array Value} {below : List Frame} {meth : Method} {c : Code} {H : Heap} {locs : List Loc} {cells slots : Nat} {Q : State → Prop} {pc : Nat} {ls : Array Slot} {rest : List Value} {x y : Int64} (h : x = y) (k : W p l e R s m args below meth c H locs cells slots Q (F0 m pc ls (.long y :: rest))) : W p l e R s m args below meth c H locs cells slots Q (F0 m pc ls (.long x :: rest)) := by rw [h]; exact k
theorem cv_I1 (σ : cv_S) (k j : Nat) (g : Nat → Int32) : (cv_uI σ k g).1 j = if j = k then g else σ.1 j := rfl
theorem cv_I2 (σ : cv_S) (k : Nat) (g : Nat → Int32) : (cv_uI σ k g).2 = σ.2 := rfl
theorem cv_J1 (σ : cv_S) (k : Nat) (g : Nat → Int64) : (cv_uJ σ k g).1 = σ.1 := rfl
theorem cv_J2 (σ : cv_S) (k j : Nat) (g : Nat → Int64) : (cv_uJ σ k g).2.1 j = if j = k then g else σ.2.1 j := rfl
theorem cv_J3 (σ : cv_S) (k : Nat) (g : Nat → Int64) : (cv_uJ σ k g).2.2 = σ.2.2 := rfl
theorem cv_F1 (σ : cv_S) (k i : Nat) (x : Int32) : (cv_uF σ k i x).1 = σ.1 := rfl
theorem cv_F2 (σ : cv_S) (k i : Nat) (x : Int32) : (cv_uF σ k i x).2.1 = σ.2.1 := rfl
theorem cv_F3 (σ : cv_S) (k i j n : Nat) (x : Int32) : (cv_uF σ k i x).2.2.1 j n = if j = k then (if n = i then x else σ.2.2.1 k n) else σ.2.2.1 j n := by
  unfold cv_uF
  by_cases h : j = k <;> simp [va_up, h]
theorem cv_F4 (σ : cv_S) (k i : Nat) (x : Int32) : (cv_uF σ k i x).2.2.2 = σ.2.2.2 := rfl
theorem cv_G1 (σ : cv_S) (k i : Nat) (x : Int64) : (cv_uG σ k i x).1 = σ.1 := rfl
theorem cv_G2 (σ : cv_S) (k i : Nat) (x : Int64) : (cv_uG σ k i x).2.1 = σ.2.1 := rfl
theorem cv_G3 (σ : cv_S) (k i : Nat) (x : Int64) : (cv_uG σ k i x).2.2.1 = σ.2.2.1 := rfl
theorem cv_G4 (σ : cv_S) (k i j n : Nat) (x : Int64) : (cv_uG σ k i x).2.2.2 j n = if j = k then (if n = i then x else σ.2.2.2 k n) else σ.2.2.2 j n := by
  unfold cv_uG
  by_cases h : j = k <;> simp [va_up, h]
theorem cv_uI_self (σ : cv_S) (k : Nat) : cv_uI σ k (σ.1 k) = σ := by
  unfold cv_uI
  have : va_up σ.1 k (σ.1 k) = σ.1 := by
    funext j
    unfold va_up
    by_cases h : j = k
    · rw [if_pos h, h]
    · rw [if_neg h]
  rw [this]
theorem cv_uI_uI (σ : cv_S) (k : Nat) (f g : Nat → Int32) : cv_uI (cv_uI σ k f) k g = cv_uI σ k g := by
  unfold cv_uI
  rw [bx_uu]
/-- only the int arrays of S have changed -/
def cv_fr (S : List Nat) (σ σ' : cv_S) : Prop := (∀ k, k ∉ S → σ'.1 k = σ.1 k) ∧ σ'.2 = σ.2
theorem cv_fr.rf {S : List Nat} {σ : cv_S} : cv_fr S σ σ := ⟨fun _ _ => rfl, rfl⟩
theorem cv_fr.trans {S : List Nat} {σ σ' σ'' : cv_S} (h : cv_fr S σ σ') (h' : cv_fr S σ' σ'') : cv_fr S σ σ'' := ⟨fun k hk => (h'.1 k hk).trans (h.1 k hk), h'.2.trans h.2⟩
theorem cv_fr.mono {S S' : List Nat} {σ σ' : cv_S} (h : cv_fr S σ σ') (hs : ∀ k ∈ S, k ∈ S') : cv_fr S' σ σ' := ⟨fun k hk => h.1 k (fun q => hk (hs k q)), h.2⟩
theorem cv_fr.up {S : List Nat} {σ : cv_S} {k : Nat} {g : Nat → Int32} (hk : k ∈ S) : cv_fr S σ (cv_uI σ k g) := ⟨fun j hj => by
  have hne : j ≠ k := fun q => hj (by rw [q]; exact hk)
  rw [cv_I1, if_neg hne], rfl⟩

