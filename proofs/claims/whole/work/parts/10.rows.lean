/-! 10: the kit's rows over the one world of part 09 -/
section CVR
variable {p : Program} {l : Launch} {e : Env} {R : Room} {s : State} {m : MethodId} {args : Array Value} {below : List Frame} {meth : Method} {c : Code} {H : Heap} {locs : List Loc} {cells slots : Nat} {Q : State → Prop}
variable {cc : ByteArray} {pc nL : Nat} {ls : Array Slot} {rest : List Value} {E : cv_E} {σ : cv_S} {own : String} {Ts : List Cond}
theorem cv_iald (S : CallFix p m c cc nL s args Ts own) (K : cv_K E s) (h : cv_H E σ s H locs) (k : Nat) (hk : cv_kd k = 1) {n : Nat} (hn : cv_ln k = n) {i : Int32} (j : Nat) (hi : i = nI j) (hj : j < n) (hdg : decode cc pc = .ok (.iaload, 1))
    (kk : W p l e R s m args below meth c H locs cells slots Q (F0 m (pc + 1) ls (.int (σ.1 k j) :: rest))) : W p l e R s m args below meth c H locs cells slots Q (F0 m pc ls (.int i :: .ref (E.2.1 k) :: rest)) := by
  subst hn
  refine va_iald (D := E.1) (cl := vwCl) (f := σ.1 k) S.1 S.2.1 (K.tI hk) h.1 k 0 (by rw [cv_Wget E σ (cv_lt hk (by decide)), cv_ctI hk]) rfl (cv_inI hi hj (cv_ln_lt k)) hdg ?_
  rw [cv_cl hi hj (cv_ln_lt k)]
  exact kk
theorem cv_lald (S : CallFix p m c cc nL s args Ts own) (K : cv_K E s) (h : cv_H E σ s H locs) (k : Nat) (hk : cv_kd k = 2) {n : Nat} (hn : cv_ln k = n) {i : Int32} (j : Nat) (hi : i = nI j) (hj : j < n) (hdg : decode cc pc = .ok (.laload, 1))
    (kk : W p l e R s m args below meth c H locs cells slots Q (F0 m (pc + 1) ls (.long (σ.2.1 k j) :: rest))) : W p l e R s m args below meth c H locs cells slots Q (F0 m pc ls (.int i :: .ref (E.2.1 k) :: rest)) := by
  subst hn
  refine va_lald (D := E.1) (cl := vwCl) (f := σ.2.1 k) S.1 S.2.1 (K.tJ hk) h.1 k 0 (by rw [cv_Wget E σ (cv_lt hk (by decide)), cv_ctJ hk]) rfl (cv_inI hi hj (cv_ln_lt k)) hdg ?_
  rw [cv_cl hi hj (cv_ln_lt k)]
  exact kk
theorem cv_iast (S : CallFix p m c cc nL s args Ts own) (K : cv_K E s) (h : cv_H E σ s H locs) (k : Nat) (hk : cv_kd k = 1) {n : Nat} (hn : cv_ln k = n) {i x : Int32} (j : Nat) (hi : i = nI j) (hj : j < n) (hdg : decode cc pc = .ok (.iastore, 1))
    (kk : ∀ (σ' : cv_S) (H1 : Heap) (locs1 : List Loc), σ' = cv_uI σ k (upd (σ.1 k) j x) → cv_H E σ' s H1 locs1 → W p l e R s m args below meth c H1 locs1 cells slots Q (F0 m (pc + 1) ls rest)) : W p l e R s m args below meth c H locs cells slots Q (F0 m pc ls (.int x :: .int i :: .ref (E.2.1 k) :: rest)) := by
  subst hn
  refine va_iast (D := E.1) (cl := vwCl) (f := σ.1 k) S.1 S.2.1 (K.tI hk) h.1 (cv_D K σ s.heap.size) h.2 k 0 (by rw [cv_Wget E σ (cv_lt hk (by decide)), cv_ctI hk]) rfl (cv_inI hi hj (cv_ln_lt k)) hdg (fun H1 locs1 hP _ hS => ?_)
  rw [cv_cl hi hj (cv_ln_lt k), cv_setI hk] at hP
  exact kk _ H1 locs1 rfl ⟨hP, hS⟩
theorem cv_last (S : CallFix p m c cc nL s args Ts own) (K : cv_K E s) (h : cv_H E σ s H locs) (k : Nat) (hk : cv_kd k = 2) {n : Nat} (hn : cv_ln k = n) {i : Int32} {x : Int64} (j : Nat) (hi : i = nI j) (hj : j < n) (hdg : decode cc pc = .ok (.lastore, 1))
    (kk : ∀ (σ' : cv_S) (H1 : Heap) (locs1 : List Loc), σ' = cv_uJ σ k (vp_updL (σ.2.1 k) j x) → cv_H E σ' s H1 locs1 → W p l e R s m args below meth c H1 locs1 cells slots Q (F0 m (pc + 1) ls rest)) : W p l e R s m args below meth c H locs cells slots Q (F0 m pc ls (.long x :: .int i :: .ref (E.2.1 k) :: rest)) := by
  subst hn
  refine va_last (D := E.1) (cl := vwCl) (f := σ.2.1 k) S.1 S.2.1 (K.tJ hk) h.1 (cv_D K σ s.heap.size) h.2 k 0 (by rw [cv_Wget E σ (cv_lt hk (by decide)), cv_ctJ hk]) rfl (cv_inI hi hj (cv_ln_lt k)) hdg (fun H1 locs1 hP _ hS => ?_)
  rw [cv_cl hi hj (cv_ln_lt k), cv_setJ hk] at hP
  exact kk _ H1 locs1 rfl ⟨hP, hS⟩
theorem cv_kdV : ∀ v, v < 3 → cv_kd (v + 10) = 0 ∧ cv_kd (v + 13) = 0 ∧ cv_kd (v + 16) = 2 ∧ cv_kd (v + 19) = 1 ∧ cv_kd (v + 22) = 3 ∧ cv_ln (v + 16) = 8 ∧ cv_ln (v + 19) = 8 := by decide
theorem cv_kdR : ∀ v, v < 3 → ∀ i, i < 8 → cv_kd (8 * v + i + 25) = 2 ∧ cv_ln (8 * v + i + 25) = 3 := by decide
theorem cv_fsV {ad : Nat → Nat} {F : Nat → Int32} {G : Nat → Int64} {v : Nat} (hv : v < 3) : cv_fs ad F G (v + 10) = (4, [.ref (ad (v + 13)), .long (G 1), .int (F 2), .int (F 3), .int (F 4)]) := by
  unfold cv_fs
  rw [if_neg (by omega), if_neg (by omega), if_neg (by omega), if_neg (by omega), if_pos (by omega)]
theorem cv_fsL {ad : Nat → Nat} {F : Nat → Int32} {G : Nat → Int64} {v : Nat} (hv : v < 3) : cv_fs ad F G (v + 13) = (2, [.ref (ad (v + 16)), .ref (ad (v + 19)), .ref (ad (v + 22)), .int (F 3)]) := by
  unfold cv_fs
  rw [if_neg (by omega), if_neg (by omega), if_neg (by omega), if_neg (by omega), if_neg (by omega), if_pos (by omega)]
theorem cv_aald (S : CallFix p m c cc nL s args Ts own) (K : cv_K E s) (h : cv_H E σ s H locs) (v : Nat) (hv : v < 3) {i : Int32} (j : Nat) (hi : i = nI j) (hj : j < 8) (hdg : decode cc pc = .ok (.aaload, 1))
    (kk : W p l e R s m args below meth c H locs cells slots Q (F0 m (pc + 1) ls (.ref (E.2.1 (8 * v + j + 25)) :: rest))) : W p l e R s m args below meth c H locs cells slots Q (F0 m pc ls (.int i :: .ref (E.2.1 (v + 22)) :: rest)) := by
  have hk := (cv_kdV v hv).2.2.2.2.1
  have hcell := h.1 (v + 22) _ (cv_Wget E σ (by omega))
  rw [cv_ctQ hk] at hcell
  have hin : vp_in i 8 := cv_inI hi hj (by decide)
  have hlt : i.toNatClampNeg < 8 := Nat.not_le.mp fun q => hin (Or.inr q)
  have hcl := cv_cl hi hj (by decide)
  refine W.aald (v := .ref (E.2.1 (8 * v + j + 25))) (ty := .array .long) S.1 S.2.1 hcell (K.tQ hk 8 _) rfl (fun q => by cases q) (by show ¬ (i < 0 ∨ (arrV _ _ _).slots.size ≤ _); rw [arrV_size]; exact hin) (by
    show (arrV _ _ _).slots[_]? = _
    rw [arrV_read _ _ hlt, hcl]
    show some (va_rf (if j < 8 then some (E.2.1 (25 + 8 * (v + 22 - 22) + j)) else none)) = _
    rw [if_pos hj, show 25 + 8 * (v + 22 - 22) + j = 8 * v + j + 25 by omega]
    rfl) rfl rfl hdg kk
/-- a field is read -/
theorem cv_gf (S : CallFix p m c cc nL s args Ts own) (K : cv_K E s) (h : cv_H E σ s H locs) (k : Nat) (hk : cv_kd k = 0) {ref C : String} {T : u_T} {N ci index : Nat} {fs : List Value} (hin : ∀ w ∈ u_ws C T N, w ∈ Ts) (hf : cv_fs E.2.1 (σ.2.2.1 k) (σ.2.2.2 k) k = (ci, fs)) (hc : vwCl[ci]? = some (C, T, N)) (i : Nat) (hi : i < N) (hlink : (Cond.fieldLink own index ref (T i).2.1 (T i).2.2.1).before args s = true) (hsame : (T i).1 = ref) {v : Value} (hv : fs[i]? = some v) (hdg : decode cc pc = .ok (.getfield index, 3))
    (kk : W p l e R s m args below meth c H locs cells slots Q (F0 m (pc + 3) ls (v :: rest))) : W p l e R s m args below meth c H locs cells slots Q (F0 m pc ls (.ref (E.2.1 k) :: rest)) :=
  va_get (D := E.1) (cl := vwCl) (ci := ci) (fs := fs) (v := v) (C := C) (T := T) (N := N) S.1 S.2.1 S.2.2.2.2 hin S.2.2.2.1 K.1 h.1 k (by rw [cv_Wget E σ (cv_lt hk (by decide)), cv_ctO hk, hf]) hc i hi hlink (fun _ h9 => by rw [hsame] at h9; exact h9) hv hdg kk
theorem cv_gfN (S : CallFix p m c cc nL s args Ts own) (K : cv_K E s) (h : cv_H E σ s H locs) (k : Nat) (hk : cv_kd k = 0) {ref C host : String} {T : u_T} {N ci index : Nat} {fs : List Value} (hin : ∀ w ∈ u_ws C T N, w ∈ Ts) (hf : cv_fs E.2.1 (σ.2.2.1 k) (σ.2.2.2 k) k = (ci, fs)) (hc : vwCl[ci]? = some (C, T, N)) (i : Nat) (hi : i < N) (hlink : (Cond.fieldLinkNest own index ref (T i).2.1 (T i).2.2.1 host).before args s = true) (hsame : (T i).1 = ref) {v : Value} (hv : fs[i]? = some v) (hdg : decode cc pc = .ok (.getfield index, 3))
    (kk : W p l e R s m args below meth c H locs cells slots Q (F0 m (pc + 3) ls (v :: rest))) : W p l e R s m args below meth c H locs cells slots Q (F0 m pc ls (.ref (E.2.1 k) :: rest)) :=
  va_getN (D := E.1) (cl := vwCl) (ci := ci) (fs := fs) (v := v) (C := C) (T := T) (N := N) S.1 S.2.1 S.2.2.2.2 hin S.2.2.2.1 K.1 h.1 k (by rw [cv_Wget E σ (cv_lt hk (by decide)), cv_ctO hk, hf]) hc i hi hlink (fun _ h9 => by rw [hsame] at h9; exact h9) hv hdg kk
/-- what a write of a field owes beside the link: the slot, its type, the value -/
def cv_pok (C : String) (T : u_T) (N i : Nat) (tys : Nat → FieldType) (ty : FieldType) : Prop := i < N ∧ (∀ k, k < N → parseFieldDescriptor (T k).2.2.1 = some (tys k)) ∧ (∀ a, a < N → ∀ b, b < N → a ≠ b → (T a).2.1 ≠ (T b).2.1) ∧ (T i).2.2.2 = false ∧ parseFieldDescriptor (T i).2.2.1 = some ty
theorem cv_pf (S : CallFix p m c cc nL s args Ts own) (K : cv_K E s) (h : cv_H E σ s H locs) (k : Nat) (hk : cv_kd k = 0) {ref C : String} {T : u_T} {N ci index : Nat} {fs : List Value} {tys : Nat → FieldType} {ty : FieldType} (hin : ∀ w ∈ u_ws C T N, w ∈ Ts) (hf : cv_fs E.2.1 (σ.2.2.1 k) (σ.2.2.2 k) k = (ci, fs)) (hc : vwCl[ci]? = some (C, T, N)) (i : Nat) (hp : cv_pok C T N i tys ty) (hlink : (Cond.fieldLink own index ref (T i).2.1 (T i).2.2.1).before args s = true) (hsame : (T i).1 = ref) {x : Int32} (hn : narrow ty (.int x) = .int x) (hfit : fits ty (.int x) = true) (hl : i < fs.length) (hs : cv_fs E.2.1 (va_up (σ.2.2.1 k) i x) (σ.2.2.2 k) k = (ci, fs.set i (.int x))) (hdg : decode cc pc = .ok (.putfield index, 3))
    (kk : ∀ (σ' : cv_S) (H1 : Heap) (locs1 : List Loc), σ' = cv_uF σ k i x → cv_H E σ' s H1 locs1 → W p l e R s m args below meth c H1 locs1 cells slots Q (F0 m (pc + 3) ls rest)) : W p l e R s m args below meth c H locs cells slots Q (F0 m pc ls (.int x :: .ref (E.2.1 k) :: rest)) := by
  obtain ⟨hi, h1, h2, h3, h4⟩ := hp
  refine va_put (D := E.1) (cl := vwCl) (ci := ci) (fs := fs) (v := .int x) (ty := ty) (C := C) (T := T) (N := N) S.1 S.2.1 S.2.2.2.2 hin tys h1 h2 S.2.2.2.1 K.1 h.1 (cv_D K σ s.heap.size) h.2 k (by rw [cv_Wget E σ (cv_lt hk (by decide)), cv_ctO hk, hf]) hc i hi hlink (fun _ h9 => by rw [hsame] at h9; exact h9) h3 h4 hn hfit hl hdg (fun H1 locs1 hP _ hS => ?_)
  rw [cv_setF hk hs] at hP
  exact kk _ H1 locs1 rfl ⟨hP, hS⟩
theorem cv_pfN (S : CallFix p m c cc nL s args Ts own) (K : cv_K E s) (h : cv_H E σ s H locs) (k : Nat) (hk : cv_kd k = 0) {ref C host : String} {T : u_T} {N ci index : Nat} {fs : List Value} {tys : Nat → FieldType} {ty : FieldType} (hin : ∀ w ∈ u_ws C T N, w ∈ Ts) (hf : cv_fs E.2.1 (σ.2.2.1 k) (σ.2.2.2 k) k = (ci, fs)) (hc : vwCl[ci]? = some (C, T, N)) (i : Nat) (hp : cv_pok C T N i tys ty) (hlink : (Cond.fieldLinkNest own index ref (T i).2.1 (T i).2.2.1 host).before args s = true) (hsame : (T i).1 = ref) {x : Int32} (hn : narrow ty (.int x) = .int x) (hfit : fits ty (.int x) = true) (hl : i < fs.length) (hs : cv_fs E.2.1 (va_up (σ.2.2.1 k) i x) (σ.2.2.2 k) k = (ci, fs.set i (.int x))) (hdg : decode cc pc = .ok (.putfield index, 3))
    (kk : ∀ (σ' : cv_S) (H1 : Heap) (locs1 : List Loc), σ' = cv_uF σ k i x → cv_H E σ' s H1 locs1 → W p l e R s m args below meth c H1 locs1 cells slots Q (F0 m (pc + 3) ls rest)) : W p l e R s m args below meth c H locs cells slots Q (F0 m pc ls (.int x :: .ref (E.2.1 k) :: rest)) := by
  obtain ⟨hi, h1, h2, h3, h4⟩ := hp
  refine va_putN (D := E.1) (cl := vwCl) (ci := ci) (fs := fs) (v := .int x) (ty := ty) (C := C) (T := T) (N := N) S.1 S.2.1 S.2.2.2.2 hin tys h1 h2 S.2.2.2.1 K.1 h.1 (cv_D K σ s.heap.size) h.2 k (by rw [cv_Wget E σ (cv_lt hk (by decide)), cv_ctO hk, hf]) hc i hi hlink (fun _ h9 => by rw [hsame] at h9; exact h9) h3 h4 hn hfit hl hdg (fun H1 locs1 hP _ hS => ?_)
  rw [cv_setF hk hs] at hP
  exact kk _ H1 locs1 rfl ⟨hP, hS⟩
theorem cv_pl (S : CallFix p m c cc nL s args Ts own) (K : cv_K E s) (h : cv_H E σ s H locs) (k : Nat) (hk : cv_kd k = 0) {ref C : String} {T : u_T} {N ci index : Nat} {fs : List Value} {tys : Nat → FieldType} (hin : ∀ w ∈ u_ws C T N, w ∈ Ts) (hf : cv_fs E.2.1 (σ.2.2.1 k) (σ.2.2.2 k) k = (ci, fs)) (hc : vwCl[ci]? = some (C, T, N)) (i : Nat) (hp : cv_pok C T N i tys .long) (hlink : (Cond.fieldLink own index ref (T i).2.1 (T i).2.2.1).before args s = true) (hsame : (T i).1 = ref) {x : Int64} (hl : i < fs.length) (hs : cv_fs E.2.1 (σ.2.2.1 k) (va_up (σ.2.2.2 k) i x) k = (ci, fs.set i (.long x))) (hdg : decode cc pc = .ok (.putfield index, 3))
    (kk : ∀ (σ' : cv_S) (H1 : Heap) (locs1 : List Loc), σ' = cv_uG σ k i x → cv_H E σ' s H1 locs1 → W p l e R s m args below meth c H1 locs1 cells slots Q (F0 m (pc + 3) ls rest)) : W p l e R s m args below meth c H locs cells slots Q (F0 m pc ls (.long x :: .ref (E.2.1 k) :: rest)) := by
  obtain ⟨hi, h1, h2, h3, h4⟩ := hp
  refine va_put (D := E.1) (cl := vwCl) (ci := ci) (fs := fs) (v := .long x) (ty := .long) (C := C) (T := T) (N := N) S.1 S.2.1 S.2.2.2.2 hin tys h1 h2 S.2.2.2.1 K.1 h.1 (cv_D K σ s.heap.size) h.2 k (by rw [cv_Wget E σ (cv_lt hk (by decide)), cv_ctO hk, hf]) hc i hi hlink (fun _ h9 => by rw [hsame] at h9; exact h9) h3 h4 rfl rfl hl hdg (fun H1 locs1 hP _ hS => ?_)
  rw [cv_setG hk hs] at hP
  exact kk _ H1 locs1 rfl ⟨hP, hS⟩
theorem cv_plN (S : CallFix p m c cc nL s args Ts own) (K : cv_K E s) (h : cv_H E σ s H locs) (k : Nat) (hk : cv_kd k = 0) {ref C host : String} {T : u_T} {N ci index : Nat} {fs : List Value} {tys : Nat → FieldType} (hin : ∀ w ∈ u_ws C T N, w ∈ Ts) (hf : cv_fs E.2.1 (σ.2.2.1 k) (σ.2.2.2 k) k = (ci, fs)) (hc : vwCl[ci]? = some (C, T, N)) (i : Nat) (hp : cv_pok C T N i tys .long) (hlink : (Cond.fieldLinkNest own index ref (T i).2.1 (T i).2.2.1 host).before args s = true) (hsame : (T i).1 = ref) {x : Int64} (hl : i < fs.length) (hs : cv_fs E.2.1 (σ.2.2.1 k) (va_up (σ.2.2.2 k) i x) k = (ci, fs.set i (.long x))) (hdg : decode cc pc = .ok (.putfield index, 3))
    (kk : ∀ (σ' : cv_S) (H1 : Heap) (locs1 : List Loc), σ' = cv_uG σ k i x → cv_H E σ' s H1 locs1 → W p l e R s m args below meth c H1 locs1 cells slots Q (F0 m (pc + 3) ls rest)) : W p l e R s m args below meth c H locs cells slots Q (F0 m pc ls (.long x :: .ref (E.2.1 k) :: rest)) := by
  obtain ⟨hi, h1, h2, h3, h4⟩ := hp
  refine va_putN (D := E.1) (cl := vwCl) (ci := ci) (fs := fs) (v := .long x) (ty := .long) (C := C) (T := T) (N := N) S.1 S.2.1 S.2.2.2.2 hin tys h1 h2 S.2.2.2.1 K.1 h.1 (cv_D K σ s.heap.size) h.2 k (by rw [cv_Wget E σ (cv_lt hk (by decide)), cv_ctO hk, hf]) hc i hi hlink (fun _ h9 => by rw [hsame] at h9; exact h9) h3 h4 rfl rfl hl hdg (fun H1 locs1 hP _ hS => ?_)
  rw [cv_setG hk hs] at hP
  exact kk _ H1 locs1 rfl ⟨hP, hS⟩
/-- System.arraycopy between two int arrays -/
theorem cv_copy (S : CallFix p m c cc nL s args Ts own) (K : cv_K E s) (h : cv_H E σ s H locs) (hls : ls.size = nL) {index : Nat} (hlink : (Cond.methodLink own index arraycopyName).before args s = true) (hnat : (Cond.native arraycopyName).before args s = true) (hstat : (Cond.static arraycopyName).before args s = true) (hini : (Cond.initialized "java/lang/System").before args s = true)
    (k0 k1 : Nat) (hk0 : cv_kd k0 = 1) (hk1 : cv_kd k1 = 1) {n0 n1 : Nat} (hn0 : cv_ln k0 = n0) (hn1 : cv_ln k1 = n1) {sp dp n : Int32} (sj dj nj : Nat) (hs : sp = nI sj) (hd : dp = nI dj) (hn : n = nI nj) (h4 : sj + nj ≤ n0) (h5 : dj + nj ≤ n1) (hR : 1 ≤ R.frames) (hL : (rest.map fun v => v.category).sum + (nativeFrameWords "java/lang/System" "arraycopy" 5 + 11) ≤ R.locals) (hdg : decode cc pc = .ok (.invokestatic index, 3))
    (kk : ∀ (σ' : cv_S) (H1 : Heap) (locs1 : List Loc), σ' = cv_uI σ k1 (va_cpy (σ.1 k0) (σ.1 k1) sj dj nj) → cv_H E σ' s H1 locs1 → W p l e R s m args below meth c H1 locs1 cells slots Q (F0 m (pc + 3) ls rest)) : W p l e R s m args below meth c H locs cells slots Q (F0 m pc ls (.int n :: .int dp :: .ref (E.2.1 k1) :: .int sp :: .ref (E.2.1 k0) :: rest)) := by
  have b0 := cv_ln_lt k0
  have b1 := cv_ln_lt k1
  rw [hn0] at b0
  rw [hn1] at b1
  have hK : va_K E.1 vwCl [(E.2.2 k0, .int), (E.2.2 k1, .int)] s := va_K.app (K.tI hk0) (K.tI hk1)
  have e1 : sp.toNatClampNeg = sj := by rw [hs]; exact nI_clamp (by omega)
  have e2 : dp.toNatClampNeg = dj := by rw [hd]; exact nI_clamp (by omega)
  have e3 : n.toNatClampNeg = nj := by rw [hn]; exact nI_clamp (by omega)
  refine va_copyi (D := E.1) (cl := vwCl) (f := σ.1 k0) (g := σ.1 k1) (n0 := cv_ln k0) (n1 := cv_ln k1) (ty := .int) S.1 S.2.1 (S.2.2.1.trans hls.symm) S.2.2.2.1 hlink hnat hstat hini hK h.1 (cv_D K σ s.heap.size) h.2 k0 k1 0 1 (by rw [cv_Wget E σ (cv_lt hk0 (by decide)), cv_ctI hk0]) (by rw [cv_Wget E σ (cv_lt hk1 (by decide)), cv_ctI hk1]) rfl rfl rfl (by rw [hs]; exact nI_pos (by omega)) (by rw [hd]; exact nI_pos (by omega)) (by rw [hn]; exact nI_pos (by omega)) (by rw [e1, e3, hn0]; exact h4) (by rw [e2, e3, hn1]; exact h5) (fun _ _ => rfl) hR hL hdg (fun H1 locs1 hP _ hS => ?_)
  rw [e1, e2, e3, cv_setI hk1] at hP
  exact kk _ H1 locs1 rfl ⟨hP, hS⟩
end CVR
