/-! THE ENGINE: a memory of numbered cells; a walk's judgement over it; a row an instruction. All of it speaks of 'vwCl' and 'em_tys' alone of the claim's own names. -/
/-- a place of the walk that several ways reach: what it asks, then the ways -/
def em_join {α : Type} (A : α) (B : α → Prop) : Prop := B A
theorem em_jn0 {A : Prop} {B : Prop → Prop} (h : em_join A B) : ∃ J : Prop, (J → A) ∧ B J := ⟨A, id, h⟩
theorem em_jn1 {α : Type} {A : α → Prop} {B : (α → Prop) → Prop} (h : em_join A B) : ∃ J : α → Prop, (∀ a, J a → A a) ∧ B J := ⟨A, fun _ h => h, h⟩
theorem em_jn2 {α β : Type} {A : α → β → Prop} {B : (α → β → Prop) → Prop} (h : em_join A B) : ∃ J : α → β → Prop, (∀ a b, J a b → A a b) ∧ B J := ⟨A, fun _ _ h => h, h⟩
theorem em_jn3 {α β γ : Type} {A : α → β → γ → Prop} {B : (α → β → γ → Prop) → Prop} (h : em_join A B) : ∃ J : α → β → γ → Prop, (∀ a b c, J a b c → A a b c) ∧ B J := ⟨A, fun _ _ _ h => h, h⟩
theorem em_jn4 {α β γ δ : Type} {A : α → β → γ → δ → Prop} {B : (α → β → γ → δ → Prop) → Prop} (h : em_join A B) : ∃ J : α → β → γ → δ → Prop, (∀ a b c d, J a b c d → A a b c d) ∧ B J := ⟨A, fun _ _ _ _ h => h, h⟩
/-- the ints that the cells hold: cell, place -/
abbrev em_M : Type := Nat → Nat → Int32
/-- the shape of a cell: an array of ints (its type's place, length); an object (class, fields: none an int, else a reference); an array of references -/
abbrev em_Sh : Type := (Nat × Nat) ⊕ ((Nat × List (Option (Option Nat))) ⊕ (Nat × Nat × (Nat → Option Nat)))
def em_fv (x : Int32) (o : Option (Option Nat)) : Value := match o with
  | none => .int x
  | some r => va_rf r
def em_fs (g : Nat → Int32) : Nat → List (Option (Option Nat)) → List Value
  | _, [] => []
  | j, o :: r => em_fv (g j) o :: em_fs g (j + 1) r
def em_ct (cT : Nat → ClassId) (sh : em_Sh) (g : Nat → Int32) : va_E := match sh with
  | .inl (t, n) => .inl (cT t, n, .inl g)
  | .inr (.inl (ci, fs)) => .inr (ci, em_fs g 0 fs)
  | .inr (.inr (t, n, f)) => .inl (cT t, n, .inr (.inr (.inr (.inr f))))
def em_w (cT : Nat → ClassId) (ad : Nat → Nat) (sh : Nat → em_Sh) (n : Nat) (M : em_M) : va_W := (List.range n).map (fun k => (ad k, em_ct cT (sh k) (M k)))
theorem em_w_at {cT : Nat → ClassId} {ad : Nat → Nat} {sh : Nat → em_Sh} {n : Nat} {M : em_M} {k : Nat} (hk : k < n) : (em_w cT ad sh n M)[k]? = some (ad k, em_ct cT (sh k) (M k)) := by
  unfold em_w
  rw [List.getElem?_map, List.getElem?_range hk]
  rfl
theorem em_w_lt {cT : Nat → ClassId} {ad : Nat → Nat} {sh : Nat → em_Sh} {n : Nat} {M : em_M} {k : Nat} {q : Nat × va_E} (h : (em_w cT ad sh n M)[k]? = some q) : k < n ∧ q = (ad k, em_ct cT (sh k) (M k)) := by
  have hk : k < n := by
    have := (List.getElem?_eq_some_iff.mp h).1
    simpa [em_w] using this
  rw [em_w_at hk] at h
  exact ⟨hk, (Option.some.inj h).symm⟩
theorem em_w_set {cT : Nat → ClassId} {ad : Nat → Nat} {sh : Nat → em_Sh} {n : Nat} {M : em_M} {k : Nat} {s' : em_Sh} {g : Nat → Int32} : (em_w cT ad sh n M).set k (ad k, em_ct cT s' g) = em_w cT ad (va_up sh k s') n (va_up M k g) := by
  apply List.ext_getElem?
  intro j
  by_cases hj : j < n
  · rw [em_w_at hj, List.getElem?_set]
    by_cases e : k = j
    · subst e
      have hl : k < (em_w cT ad sh n M).length := by simpa [em_w] using hj
      simp [va_up_self, hl]
    · rw [if_neg e, em_w_at hj, va_up_ne _ _ (fun h => e h.symm), va_up_ne _ _ (fun h => e h.symm)]
  · have h1 : (em_w cT ad (va_up sh k s') n (va_up M k g))[j]? = none := by
      apply List.getElem?_eq_none
      simp [em_w]; omega
    rw [h1]
    apply List.getElem?_eq_none
    simp [em_w]; omega
theorem em_up_same {α : Type} (f : Nat → α) (k : Nat) : va_up f k (f k) = f := by
  funext j
  unfold va_up
  split
  · next h => rw [h]
  · rfl
/-- one place of one cell is written -/
def em_up (M : em_M) (k i : Nat) (x : Int32) : em_M := va_up M k (upd (M k) i x)
theorem em_w_seti {cT : Nat → ClassId} {ad : Nat → Nat} {sh : Nat → em_Sh} {n : Nat} {M : em_M} {k : Nat} {g : Nat → Int32} : (em_w cT ad sh n M).set k (ad k, em_ct cT (sh k) g) = em_w cT ad sh n (va_up M k g) := by
  rw [em_w_set, em_up_same]
theorem em_fs_get {g : Nat → Int32} : ∀ (fs : List (Option (Option Nat))) (j0 j : Nat) (o : Option (Option Nat)), fs[j]? = some o → (em_fs g j0 fs)[j]? = some (em_fv (g (j0 + j)) o) := by
  intro fs
  induction fs with
  | nil => intro j0 j o h; simp at h
  | cons a r ih =>
    intro j0 j o h
    cases j with
    | zero =>
      simp at h
      subst h
      simp [em_fs]
    | succ j =>
      have h2 := ih (j0 + 1) j o (by simpa using h)
      simp only [em_fs, List.getElem?_cons_succ]
      rw [h2]
      congr 3
      omega
theorem em_fs_len {g : Nat → Int32} : ∀ (fs : List (Option (Option Nat))) (j0 : Nat), (em_fs g j0 fs).length = fs.length := by
  intro fs
  induction fs with
  | nil => intro j0; rfl
  | cons a r ih => intro j0; simp [em_fs, ih]
theorem em_fs_congr {g g' : Nat → Int32} : ∀ (fs : List (Option (Option Nat))) (j0 : Nat), (∀ j, j0 ≤ j → g j = g' j) → em_fs g j0 fs = em_fs g' j0 fs := by
  intro fs
  induction fs with
  | nil => intro j0 _; rfl
  | cons a r ih =>
    intro j0 h
    simp only [em_fs]
    rw [h j0 (Nat.le_refl _), ih (j0 + 1) (fun j hj => h j (by omega))]
theorem em_fs_seti {g : Nat → Int32} {x : Int32} : ∀ (fs : List (Option (Option Nat))) (j0 j : Nat), fs[j]? = some none → (em_fs g j0 fs).set j (.int x) = em_fs (upd g (j0 + j) x) j0 fs := by
  intro fs
  induction fs with
  | nil => intro j0 j h; simp at h
  | cons a r ih =>
    intro j0 j h
    cases j with
    | zero =>
      simp at h
      subst h
      simp only [em_fs, List.set_cons_zero]
      rw [em_fs_congr (g' := upd g (j0 + 0) x) r (j0 + 1) (fun j hj => by unfold upd; rw [if_neg (by omega)])]
      simp [em_fv, upd]
    | succ j =>
      simp only [em_fs, List.set_cons_succ]
      rw [ih (j0 + 1) j (by simpa using h), show j0 + 1 + j = j0 + (j + 1) by omega]
      congr 2
      unfold upd
      rw [if_neg (by omega)]
theorem em_fs_setr {g : Nat → Int32} {r0 : Option Nat} : ∀ (fs : List (Option (Option Nat))) (j0 j : Nat), (em_fs g j0 fs).set j (va_rf r0) = em_fs g j0 (fs.set j (some r0)) := by
  intro fs
  induction fs with
  | nil => intro j0 j; rfl
  | cons a r ih =>
    intro j0 j
    cases j with
    | zero => simp [em_fs, em_fv]
    | succ j => simp [em_fs, ih]
theorem em_pos {x : Int32} {n : Nat} (h : vp_in x n) : x.toNatClampNeg < n := Nat.not_le.mp fun q => h (Or.inr q)
/-- what may be written: all from b0 on -/
def em_A (b0 : Nat) : Nat → Prop := fun q => b0 ≤ q
/-- the world -/
def em_P (D : va_G) (b0 : Nat) (cT : Nat → ClassId) (ad : Nat → Nat) (sh : Nat → em_Sh) (n : Nat) (M : em_M) (H : Heap) : Prop := va_P D vwCl (em_w cT ad sh n M) H ∧ va_D (em_A b0) (em_w cT ad sh n M)
abbrev em_X : Type := Program × Launch × Env × Room × State × MethodId × Array Value × List Frame × Method × Code × (State → Prop)
abbrev xP (X : em_X) : Program := X.1
abbrev xL (X : em_X) : Launch := X.2.1
abbrev xE (X : em_X) : Env := X.2.2.1
abbrev xR (X : em_X) : Room := X.2.2.2.1
abbrev xS (X : em_X) : State := X.2.2.2.2.1
abbrev xI (X : em_X) : MethodId := X.2.2.2.2.2.1
abbrev xA (X : em_X) : Array Value := X.2.2.2.2.2.2.1
abbrev xB (X : em_X) : List Frame := X.2.2.2.2.2.2.2.1
abbrev xM (X : em_X) : Method := X.2.2.2.2.2.2.2.2.1
abbrev xC (X : em_X) : Code := X.2.2.2.2.2.2.2.2.2.1
abbrev xQ (X : em_X) : State → Prop := X.2.2.2.2.2.2.2.2.2.2
/-- words that a callee can't be handed by its list: private members of nest mates -/
def em_N (U : State) : Prop := (∀ w ∈ em_nw, va_Nw w U) ∧ va_AO R_SL U
/-- where a walk stands: the machine's own facts, the same all through a method -/
def em_Cx (X : em_X) (D : va_G) (b0 : Nat) (cT : Nat → ClassId) (own : String) (cc : ByteArray) (ret : Option FieldType) (nL : Nat) (rm : Room) : Prop :=
  (xP X).tables.exec = Jvm.exec ∧ (xC X).code = cc ∧ (xC X).maxLocals = nL ∧ (xS X).vm.findClass own = some (xI X).cls ∧ (∀ w ∈ wAll, w.before (xA X) (xS X) = true) ∧ va_K D vwCl (em_tys cT) (xS X) ∧ (xM X).sig.returnType = ret ∧ (xM X).locks = false ∧ b0 ≤ (xS X).heap.size ∧ em_N (xS X) ∧ xR X = rm
/-- THE JUDGEMENT: from every heap that holds the memory M, with the locals lv and the stack st, the walk goes on to its end -/
def em_G (X : em_X) (D : va_G) (b0 : Nat) (cT : Nat → ClassId) (ad : Nat → Nat) (nL : Nat) (sh : Nat → em_Sh) (n kc ks : Nat) (M : em_M) (pc : Nat) (lv : List (Nat × Value)) (st : List Value) : Prop :=
  ∀ (ls : Array Slot) (H : Heap) (locs : List Loc), lv_has ls nL lv → em_P D b0 cT ad sh n M H → va_S (em_A b0) (xS X).heap H locs → W (xP X) (xL X) (xE X) (xR X) (xS X) (xI X) (xA X) (xB X) (xM X) (xC X) H locs kc ks (xQ X) (F0 (xI X) pc ls st)
section EmRows
variable {X : em_X} {D : va_G} {b0 : Nat} {cT : Nat → ClassId} {ad : Nat → Nat} {nL : Nat} {sh : Nat → em_Sh} {n kc ks : Nat} {M : em_M} {pc : Nat} {lv lv' : List (Nat × Value)} {st rest : List Value} {own : String} {cc : ByteArray} {ret : Option FieldType} {rm : Room}
theorem em_Cx.x (C : em_Cx X D b0 cT own cc ret nL rm) : (xP X).tables.exec = Jvm.exec := C.1
theorem em_Cx.b (C : em_Cx X D b0 cT own cc ret nL rm) : (xC X).code = cc := C.2.1
theorem em_Cx.ml (C : em_Cx X D b0 cT own cc ret nL rm) : (xC X).maxLocals = nL := C.2.2.1
theorem em_Cx.ow (C : em_Cx X D b0 cT own cc ret nL rm) : (xS X).vm.findClass own = some (xI X).cls := C.2.2.2.1
theorem em_Cx.ts (C : em_Cx X D b0 cT own cc ret nL rm)   : ∀ w ∈ wAll, w.before (xA X) (xS X) = true := C.2.2.2.2.1
theorem em_Cx.K (C : em_Cx X D b0 cT own cc ret nL rm) : va_K D vwCl (em_tys cT) (xS X) := C.2.2.2.2.2.1
theorem em_Cx.r (C : em_Cx X D b0 cT own cc ret nL rm) : (xM X).sig.returnType = ret := C.2.2.2.2.2.2.1
theorem em_Cx.lk (C : em_Cx X D b0 cT own cc ret nL rm) : (xM X).locks = false := C.2.2.2.2.2.2.2.1
theorem em_Cx.sz (C : em_Cx X D b0 cT own cc ret nL rm) : b0 ≤ (xS X).heap.size := C.2.2.2.2.2.2.2.2.1
theorem em_Cx.N (C : em_Cx X D b0 cT own cc ret nL rm) : em_N (xS X) := C.2.2.2.2.2.2.2.2.2.1
theorem em_Cx.R (C : em_Cx X D b0 cT own cc ret nL rm) : xR X = rm := C.2.2.2.2.2.2.2.2.2.2
theorem g_iconst (C : em_Cx X D b0 cT own cc ret nL rm) {z : Int} {v : Int32} (hd : decode cc pc = .ok (.iconst z, 1)) (hv : Int32.ofInt z = v) (kk : em_G X D b0 cT ad nL sh n kc ks M (pc + 1) lv (.int v :: rest)) : em_G X D b0 cT ad nL sh n kc ks M (pc) lv (rest) :=
  fun ls H locs h1 h2 h3 => lv_iconst C.x C.b hd hv (kk ls H locs h1 h2 h3)
theorem g_bipush (C : em_Cx X D b0 cT own cc ret nL rm) {z : Int} {v : Int32} (hd : decode cc pc = .ok (.bipush z, 2)) (hv : (Int8.ofInt z).toInt32 = v) (kk : em_G X D b0 cT ad nL sh n kc ks M (pc + 2) lv (.int v :: rest)) : em_G X D b0 cT ad nL sh n kc ks M (pc) lv (rest) :=
  fun ls H locs h1 h2 h3 => lv_bipush C.x C.b hd hv (kk ls H locs h1 h2 h3)
theorem g_sipush (C : em_Cx X D b0 cT own cc ret nL rm) {z : Int} {v : Int32} (hd : decode cc pc = .ok (.sipush z, 3)) (hv : (Int16.ofInt z).toInt32 = v) (kk : em_G X D b0 cT ad nL sh n kc ks M (pc + 3) lv (.int v :: rest)) : em_G X D b0 cT ad nL sh n kc ks M (pc) lv (rest) :=
  fun ls H locs h1 h2 h3 => lv_sipush C.x C.b hd hv (kk ls H locs h1 h2 h3)
theorem g_ldc (C : em_Cx X D b0 cT own cc ret nL rm) {ix : Nat} {v : Int32} (hd : decode cc pc = .ok (.ldc ix, 2)) (hc : Cond.constant own ix v ∈ wAll) (kk : em_G X D b0 cT ad nL sh n kc ks M (pc + 2) lv (.int v :: rest)) : em_G X D b0 cT ad nL sh n kc ks M (pc) lv (rest) :=
  fun ls H locs h1 h2 h3 => lv_ldc C.x C.b C.ow (C.ts _ hc) hd (kk ls H locs h1 h2 h3)
theorem g_iload_n (C : em_Cx X D b0 cT own cc ret nL rm) {j : Fin 4} {x : Int32} (k i : Nat) (hd : decode cc pc = .ok (.iload_n j, 1)) (hi : (j : Nat) = i) (hk : lv[k]? = some (i, .int x)) (kk : em_G X D b0 cT ad nL sh n kc ks M (pc + 1) lv (.int x :: rest)) : em_G X D b0 cT ad nL sh n kc ks M (pc) lv (rest) :=
  fun ls H locs h1 h2 h3 => lv_iload_n C.x C.b hd hi (lv_at h1 k hk) (kk ls H locs h1 h2 h3)
theorem g_iload (C : em_Cx X D b0 cT own cc ret nL rm) {i : Nat} {x : Int32} (k : Nat) (hd : decode cc pc = .ok (.iload i, 2)) (hk : lv[k]? = some (i, .int x)) (kk : em_G X D b0 cT ad nL sh n kc ks M (pc + 2) lv (.int x :: rest)) : em_G X D b0 cT ad nL sh n kc ks M (pc) lv (rest) :=
  fun ls H locs h1 h2 h3 => lv_iload C.x C.b hd (lv_at h1 k hk) (kk ls H locs h1 h2 h3)
theorem g_aload_n (C : em_Cx X D b0 cT own cc ret nL rm) {j : Fin 4} {x : Nat} (k i : Nat) (hd : decode cc pc = .ok (.aload_n j, 1)) (hi : (j : Nat) = i) (hk : lv[k]? = some (i, .ref x)) (kk : em_G X D b0 cT ad nL sh n kc ks M (pc + 1) lv (.ref x :: rest)) : em_G X D b0 cT ad nL sh n kc ks M (pc) lv (rest) :=
  fun ls H locs h1 h2 h3 => lv_aload_n C.x C.b hd hi (lv_at h1 k hk) (kk ls H locs h1 h2 h3)
theorem g_aload (C : em_Cx X D b0 cT own cc ret nL rm) {i : Nat} {x : Nat} (k : Nat) (hd : decode cc pc = .ok (.aload i, 2)) (hk : lv[k]? = some (i, .ref x)) (kk : em_G X D b0 cT ad nL sh n kc ks M (pc + 2) lv (.ref x :: rest)) : em_G X D b0 cT ad nL sh n kc ks M (pc) lv (rest) :=
  fun ls H locs h1 h2 h3 => lv_aload C.x C.b hd (lv_at h1 k hk) (kk ls H locs h1 h2 h3)
theorem g_istore_n (C : em_Cx X D b0 cT own cc ret nL rm) {j : Fin 4} {x : Int32} (i : Nat) (hd : decode cc pc = .ok (.istore_n j, 1)) (hi : (j : Nat) = i) (hn : i < nL) (hl : ((i, Value.int x) :: lv.filter (fun q => !(q.1 == i) && !(q.1 + 1 == i && q.2.category == 2)) = lv')) (kk : em_G X D b0 cT ad nL sh n kc ks M (pc + 1) lv' (rest)) : em_G X D b0 cT ad nL sh n kc ks M (pc) lv (.int x :: rest) :=
  fun ls H locs h1 h2 h3 => lv_istore_n C.x C.b hd hi h1 hn hl (fun ls h1 => kk ls H locs h1 h2 h3)
theorem g_istore (C : em_Cx X D b0 cT own cc ret nL rm) {i : Nat} {x : Int32} (hd : decode cc pc = .ok (.istore i, 2)) (hn : i < nL) (hl : ((i, Value.int x) :: lv.filter (fun q => !(q.1 == i) && !(q.1 + 1 == i && q.2.category == 2)) = lv')) (kk : em_G X D b0 cT ad nL sh n kc ks M (pc + 2) lv' (rest)) : em_G X D b0 cT ad nL sh n kc ks M (pc) lv (.int x :: rest) :=
  fun ls H locs h1 h2 h3 => lv_istore C.x C.b hd h1 hn hl (fun ls h1 => kk ls H locs h1 h2 h3)
theorem g_astore_n (C : em_Cx X D b0 cT own cc ret nL rm) {j : Fin 4} {x : Nat} (i : Nat) (hd : decode cc pc = .ok (.astore_n j, 1)) (hi : (j : Nat) = i) (hn : i < nL) (hl : ((i, Value.ref x) :: lv.filter (fun q => !(q.1 == i) && !(q.1 + 1 == i && q.2.category == 2)) = lv')) (kk : em_G X D b0 cT ad nL sh n kc ks M (pc + 1) lv' (rest)) : em_G X D b0 cT ad nL sh n kc ks M (pc) lv (.ref x :: rest) :=
  fun ls H locs h1 h2 h3 => lv_astore_n C.x C.b hd hi h1 hn hl (fun ls h1 => kk ls H locs h1 h2 h3)
theorem g_astore (C : em_Cx X D b0 cT own cc ret nL rm) {i : Nat} {x : Nat} (hd : decode cc pc = .ok (.astore i, 2)) (hn : i < nL) (hl : ((i, Value.ref x) :: lv.filter (fun q => !(q.1 == i) && !(q.1 + 1 == i && q.2.category == 2)) = lv')) (kk : em_G X D b0 cT ad nL sh n kc ks M (pc + 2) lv' (rest)) : em_G X D b0 cT ad nL sh n kc ks M (pc) lv (.ref x :: rest) :=
  fun ls H locs h1 h2 h3 => lv_astore C.x C.b hd h1 hn hl (fun ls h1 => kk ls H locs h1 h2 h3)
theorem g_iinc (C : em_Cx X D b0 cT own cc ret nL rm) {i : Nat} {z : Int} {x v : Int32} (k : Nat) (hd : decode cc pc = .ok (.iinc i z, 3)) (hk : lv[k]? = some (i, .int x)) (hv : x + Int32.ofInt z = v) (hn : i < nL) (hl : ((i, Value.int v) :: lv.filter (fun q => !(q.1 == i) && !(q.1 + 1 == i && q.2.category == 2)) = lv')) (kk : em_G X D b0 cT ad nL sh n kc ks M (pc + 3) lv' (rest)) : em_G X D b0 cT ad nL sh n kc ks M (pc) lv (rest) :=
  fun ls H locs h1 h2 h3 => lv_iinc C.x C.b hd h1 hk hv hn hl (fun ls h1 => kk ls H locs h1 h2 h3)
theorem g_iadd (C : em_Cx X D b0 cT own cc ret nL rm) {x y : Int32} (hd : decode cc pc = .ok (.iadd, 1)) (kk : em_G X D b0 cT ad nL sh n kc ks M (pc + 1) lv (.int (x + y) :: rest)) : em_G X D b0 cT ad nL sh n kc ks M (pc) lv (.int y :: .int x :: rest) :=
  fun ls H locs h1 h2 h3 => lv_iadd C.x C.b hd (kk ls H locs h1 h2 h3)
theorem g_isub (C : em_Cx X D b0 cT own cc ret nL rm) {x y : Int32} (hd : decode cc pc = .ok (.isub, 1)) (kk : em_G X D b0 cT ad nL sh n kc ks M (pc + 1) lv (.int (x - y) :: rest)) : em_G X D b0 cT ad nL sh n kc ks M (pc) lv (.int y :: .int x :: rest) :=
  fun ls H locs h1 h2 h3 => lv_isub C.x C.b hd (kk ls H locs h1 h2 h3)
theorem g_imul (C : em_Cx X D b0 cT own cc ret nL rm) {x y : Int32} (hd : decode cc pc = .ok (.imul, 1)) (kk : em_G X D b0 cT ad nL sh n kc ks M (pc + 1) lv (.int (x * y) :: rest)) : em_G X D b0 cT ad nL sh n kc ks M (pc) lv (.int y :: .int x :: rest) :=
  fun ls H locs h1 h2 h3 => lv_imul C.x C.b hd (kk ls H locs h1 h2 h3)
theorem g_iand (C : em_Cx X D b0 cT own cc ret nL rm) {x y : Int32} (hd : decode cc pc = .ok (.iand, 1)) (kk : em_G X D b0 cT ad nL sh n kc ks M (pc + 1) lv (.int (x &&& y) :: rest)) : em_G X D b0 cT ad nL sh n kc ks M (pc) lv (.int y :: .int x :: rest) :=
  fun ls H locs h1 h2 h3 => lv_iand C.x C.b hd (kk ls H locs h1 h2 h3)
theorem g_ior (C : em_Cx X D b0 cT own cc ret nL rm) {x y : Int32} (hd : decode cc pc = .ok (.ior, 1)) (kk : em_G X D b0 cT ad nL sh n kc ks M (pc + 1) lv (.int (x ||| y) :: rest)) : em_G X D b0 cT ad nL sh n kc ks M (pc) lv (.int y :: .int x :: rest) :=
  fun ls H locs h1 h2 h3 => lv_ior C.x C.b hd (kk ls H locs h1 h2 h3)
theorem g_ixor (C : em_Cx X D b0 cT own cc ret nL rm) {x y : Int32} (hd : decode cc pc = .ok (.ixor, 1)) (kk : em_G X D b0 cT ad nL sh n kc ks M (pc + 1) lv (.int (x ^^^ y) :: rest)) : em_G X D b0 cT ad nL sh n kc ks M (pc) lv (.int y :: .int x :: rest) :=
  fun ls H locs h1 h2 h3 => lv_ixor C.x C.b hd (kk ls H locs h1 h2 h3)
theorem g_ishl (C : em_Cx X D b0 cT own cc ret nL rm) {x y : Int32} (hd : decode cc pc = .ok (.ishl, 1)) (kk : em_G X D b0 cT ad nL sh n kc ks M (pc + 1) lv (.int (x <<< (y &&& 31)) :: rest)) : em_G X D b0 cT ad nL sh n kc ks M (pc) lv (.int y :: .int x :: rest) :=
  fun ls H locs h1 h2 h3 => lv_ishl C.x C.b hd (kk ls H locs h1 h2 h3)
theorem g_ishr (C : em_Cx X D b0 cT own cc ret nL rm) {x y : Int32} (hd : decode cc pc = .ok (.ishr, 1)) (kk : em_G X D b0 cT ad nL sh n kc ks M (pc + 1) lv (.int (x >>> (y &&& 31)) :: rest)) : em_G X D b0 cT ad nL sh n kc ks M (pc) lv (.int y :: .int x :: rest) :=
  fun ls H locs h1 h2 h3 => lv_ishr C.x C.b hd (kk ls H locs h1 h2 h3)
theorem g_idiv (C : em_Cx X D b0 cT own cc ret nL rm) {x y : Int32} (hd : decode cc pc = .ok (.idiv, 1)) (hne : ¬ y = 0) (kk : em_G X D b0 cT ad nL sh n kc ks M (pc + 1) lv (.int (x / y) :: rest)) : em_G X D b0 cT ad nL sh n kc ks M (pc) lv (.int y :: .int x :: rest) :=
  fun ls H locs h1 h2 h3 => lv_idiv C.x C.b hd hne (kk ls H locs h1 h2 h3)
theorem g_irem (C : em_Cx X D b0 cT own cc ret nL rm) {x y : Int32} (hd : decode cc pc = .ok (.irem, 1)) (hne : ¬ y = 0) (kk : em_G X D b0 cT ad nL sh n kc ks M (pc + 1) lv (.int (x - x / y * y) :: rest)) : em_G X D b0 cT ad nL sh n kc ks M (pc) lv (.int y :: .int x :: rest) :=
  fun ls H locs h1 h2 h3 => lv_irem C.x C.b hd hne (kk ls H locs h1 h2 h3)
theorem g_ineg (C : em_Cx X D b0 cT own cc ret nL rm) {x : Int32} (hd : decode cc pc = .ok (.ineg, 1)) (kk : em_G X D b0 cT ad nL sh n kc ks M (pc + 1) lv (.int (-x) :: rest)) : em_G X D b0 cT ad nL sh n kc ks M (pc) lv (.int x :: rest) :=
  fun ls H locs h1 h2 h3 => lv_ineg C.x C.b hd (kk ls H locs h1 h2 h3)
theorem g_dup (C : em_Cx X D b0 cT own cc ret nL rm) {va : Value} (hd : decode cc pc = .ok (.dup, 1)) (ha : va.category = 1) (kk : em_G X D b0 cT ad nL sh n kc ks M (pc + 1) lv (va :: va :: rest)) : em_G X D b0 cT ad nL sh n kc ks M (pc) lv (va :: rest) :=
  fun ls H locs h1 h2 h3 => lv_dup C.x C.b hd ha (kk ls H locs h1 h2 h3)
theorem g_pop (C : em_Cx X D b0 cT own cc ret nL rm) {va : Value} (hd : decode cc pc = .ok (.pop, 1)) (ha : va.category = 1) (kk : em_G X D b0 cT ad nL sh n kc ks M (pc + 1) lv (rest)) : em_G X D b0 cT ad nL sh n kc ks M (pc) lv (va :: rest) :=
  fun ls H locs h1 h2 h3 => lv_pop C.x C.b hd ha (kk ls H locs h1 h2 h3)
theorem g_dup_x1 (C : em_Cx X D b0 cT own cc ret nL rm) {va vb : Value} (hd : decode cc pc = .ok (.dup_x1, 1)) (ha : va.category = 1) (hb : vb.category = 1) (kk : em_G X D b0 cT ad nL sh n kc ks M (pc + 1) lv (va :: vb :: va :: rest)) : em_G X D b0 cT ad nL sh n kc ks M (pc) lv (va :: vb :: rest) :=
  fun ls H locs h1 h2 h3 => lv_dup_x1 C.x C.b hd ha hb (kk ls H locs h1 h2 h3)
theorem g_dup_x2 (C : em_Cx X D b0 cT own cc ret nL rm) {va vb vd : Value} (hd : decode cc pc = .ok (.dup_x2, 1)) (ha : va.category = 1) (hb : vb.category = 1) (hc : vd.category = 1) (kk : em_G X D b0 cT ad nL sh n kc ks M (pc + 1) lv (va :: vb :: vd :: va :: rest)) : em_G X D b0 cT ad nL sh n kc ks M (pc) lv (va :: vb :: vd :: rest) :=
  fun ls H locs h1 h2 h3 => lv_dup_x2 C.x C.b hd ha hb hc (kk ls H locs h1 h2 h3)
theorem g_dup2 (C : em_Cx X D b0 cT own cc ret nL rm) {va vb : Value} (hd : decode cc pc = .ok (.dup2, 1)) (ha : va.category = 1) (hb : vb.category = 1) (kk : em_G X D b0 cT ad nL sh n kc ks M (pc + 1) lv (va :: vb :: va :: vb :: rest)) : em_G X D b0 cT ad nL sh n kc ks M (pc) lv (va :: vb :: rest) :=
  fun ls H locs h1 h2 h3 => lv_dup2_11 C.x C.b hd ha hb (kk ls H locs h1 h2 h3)
theorem g_if_eq (C : em_Cx X D b0 cT own cc ret nL rm) {x : Int32} {off : Int} {tgt : Nat} (hd : decode cc pc = .ok (.ifCond .eq off, 3)) (ht : (pc : Int) + off = (tgt : Int)) (kt : x = 0 → em_G X D b0 cT ad nL sh n kc ks M (tgt) lv (rest)) (kf : ¬ x = 0 → em_G X D b0 cT ad nL sh n kc ks M (pc + 3) lv (rest)) : em_G X D b0 cT ad nL sh n kc ks M (pc) lv (.int x :: rest) :=
  fun ls H locs h1 h2 h3 => lv_if_eq C.x C.b hd ht (fun h => kt h ls H locs h1 h2 h3) (fun h => kf h ls H locs h1 h2 h3)
theorem g_icmp_eq (C : em_Cx X D b0 cT own cc ret nL rm) {x y : Int32} {off : Int} {tgt : Nat} (hd : decode cc pc = .ok (.if_icmp .eq off, 3)) (ht : (pc : Int) + off = (tgt : Int)) (kt : x = y → em_G X D b0 cT ad nL sh n kc ks M (tgt) lv (rest)) (kf : ¬ x = y → em_G X D b0 cT ad nL sh n kc ks M (pc + 3) lv (rest)) : em_G X D b0 cT ad nL sh n kc ks M (pc) lv (.int y :: .int x :: rest) :=
  fun ls H locs h1 h2 h3 => lv_icmp_eq C.x C.b hd ht (fun h => kt h ls H locs h1 h2 h3) (fun h => kf h ls H locs h1 h2 h3)
theorem g_if_ne (C : em_Cx X D b0 cT own cc ret nL rm) {x : Int32} {off : Int} {tgt : Nat} (hd : decode cc pc = .ok (.ifCond .ne off, 3)) (ht : (pc : Int) + off = (tgt : Int)) (kt : ¬ x = 0 → em_G X D b0 cT ad nL sh n kc ks M (tgt) lv (rest)) (kf : x = 0 → em_G X D b0 cT ad nL sh n kc ks M (pc + 3) lv (rest)) : em_G X D b0 cT ad nL sh n kc ks M (pc) lv (.int x :: rest) :=
  fun ls H locs h1 h2 h3 => lv_if_ne C.x C.b hd ht (fun h => kt h ls H locs h1 h2 h3) (fun h => kf h ls H locs h1 h2 h3)
theorem g_icmp_ne (C : em_Cx X D b0 cT own cc ret nL rm) {x y : Int32} {off : Int} {tgt : Nat} (hd : decode cc pc = .ok (.if_icmp .ne off, 3)) (ht : (pc : Int) + off = (tgt : Int)) (kt : ¬ x = y → em_G X D b0 cT ad nL sh n kc ks M (tgt) lv (rest)) (kf : x = y → em_G X D b0 cT ad nL sh n kc ks M (pc + 3) lv (rest)) : em_G X D b0 cT ad nL sh n kc ks M (pc) lv (.int y :: .int x :: rest) :=
  fun ls H locs h1 h2 h3 => lv_icmp_ne C.x C.b hd ht (fun h => kt h ls H locs h1 h2 h3) (fun h => kf h ls H locs h1 h2 h3)
theorem g_if_lt (C : em_Cx X D b0 cT own cc ret nL rm) {x : Int32} {off : Int} {tgt : Nat} (hd : decode cc pc = .ok (.ifCond .lt off, 3)) (ht : (pc : Int) + off = (tgt : Int)) (kt : x < 0 → em_G X D b0 cT ad nL sh n kc ks M (tgt) lv (rest)) (kf : ¬ x < 0 → em_G X D b0 cT ad nL sh n kc ks M (pc + 3) lv (rest)) : em_G X D b0 cT ad nL sh n kc ks M (pc) lv (.int x :: rest) :=
  fun ls H locs h1 h2 h3 => lv_if_lt C.x C.b hd ht (fun h => kt h ls H locs h1 h2 h3) (fun h => kf h ls H locs h1 h2 h3)
theorem g_icmp_lt (C : em_Cx X D b0 cT own cc ret nL rm) {x y : Int32} {off : Int} {tgt : Nat} (hd : decode cc pc = .ok (.if_icmp .lt off, 3)) (ht : (pc : Int) + off = (tgt : Int)) (kt : x < y → em_G X D b0 cT ad nL sh n kc ks M (tgt) lv (rest)) (kf : ¬ x < y → em_G X D b0 cT ad nL sh n kc ks M (pc + 3) lv (rest)) : em_G X D b0 cT ad nL sh n kc ks M (pc) lv (.int y :: .int x :: rest) :=
  fun ls H locs h1 h2 h3 => lv_icmp_lt C.x C.b hd ht (fun h => kt h ls H locs h1 h2 h3) (fun h => kf h ls H locs h1 h2 h3)
theorem g_if_ge (C : em_Cx X D b0 cT own cc ret nL rm) {x : Int32} {off : Int} {tgt : Nat} (hd : decode cc pc = .ok (.ifCond .ge off, 3)) (ht : (pc : Int) + off = (tgt : Int)) (kt : 0 ≤ x → em_G X D b0 cT ad nL sh n kc ks M (tgt) lv (rest)) (kf : ¬ 0 ≤ x → em_G X D b0 cT ad nL sh n kc ks M (pc + 3) lv (rest)) : em_G X D b0 cT ad nL sh n kc ks M (pc) lv (.int x :: rest) :=
  fun ls H locs h1 h2 h3 => lv_if_ge C.x C.b hd ht (fun h => kt h ls H locs h1 h2 h3) (fun h => kf h ls H locs h1 h2 h3)
theorem g_icmp_ge (C : em_Cx X D b0 cT own cc ret nL rm) {x y : Int32} {off : Int} {tgt : Nat} (hd : decode cc pc = .ok (.if_icmp .ge off, 3)) (ht : (pc : Int) + off = (tgt : Int)) (kt : y ≤ x → em_G X D b0 cT ad nL sh n kc ks M (tgt) lv (rest)) (kf : ¬ y ≤ x → em_G X D b0 cT ad nL sh n kc ks M (pc + 3) lv (rest)) : em_G X D b0 cT ad nL sh n kc ks M (pc) lv (.int y :: .int x :: rest) :=
  fun ls H locs h1 h2 h3 => lv_icmp_ge C.x C.b hd ht (fun h => kt h ls H locs h1 h2 h3) (fun h => kf h ls H locs h1 h2 h3)
theorem g_if_gt (C : em_Cx X D b0 cT own cc ret nL rm) {x : Int32} {off : Int} {tgt : Nat} (hd : decode cc pc = .ok (.ifCond .gt off, 3)) (ht : (pc : Int) + off = (tgt : Int)) (kt : 0 < x → em_G X D b0 cT ad nL sh n kc ks M (tgt) lv (rest)) (kf : ¬ 0 < x → em_G X D b0 cT ad nL sh n kc ks M (pc + 3) lv (rest)) : em_G X D b0 cT ad nL sh n kc ks M (pc) lv (.int x :: rest) :=
  fun ls H locs h1 h2 h3 => lv_if_gt C.x C.b hd ht (fun h => kt h ls H locs h1 h2 h3) (fun h => kf h ls H locs h1 h2 h3)
theorem g_icmp_gt (C : em_Cx X D b0 cT own cc ret nL rm) {x y : Int32} {off : Int} {tgt : Nat} (hd : decode cc pc = .ok (.if_icmp .gt off, 3)) (ht : (pc : Int) + off = (tgt : Int)) (kt : y < x → em_G X D b0 cT ad nL sh n kc ks M (tgt) lv (rest)) (kf : ¬ y < x → em_G X D b0 cT ad nL sh n kc ks M (pc + 3) lv (rest)) : em_G X D b0 cT ad nL sh n kc ks M (pc) lv (.int y :: .int x :: rest) :=
  fun ls H locs h1 h2 h3 => lv_icmp_gt C.x C.b hd ht (fun h => kt h ls H locs h1 h2 h3) (fun h => kf h ls H locs h1 h2 h3)
theorem g_if_le (C : em_Cx X D b0 cT own cc ret nL rm) {x : Int32} {off : Int} {tgt : Nat} (hd : decode cc pc = .ok (.ifCond .le off, 3)) (ht : (pc : Int) + off = (tgt : Int)) (kt : x ≤ 0 → em_G X D b0 cT ad nL sh n kc ks M (tgt) lv (rest)) (kf : ¬ x ≤ 0 → em_G X D b0 cT ad nL sh n kc ks M (pc + 3) lv (rest)) : em_G X D b0 cT ad nL sh n kc ks M (pc) lv (.int x :: rest) :=
  fun ls H locs h1 h2 h3 => lv_if_le C.x C.b hd ht (fun h => kt h ls H locs h1 h2 h3) (fun h => kf h ls H locs h1 h2 h3)
theorem g_icmp_le (C : em_Cx X D b0 cT own cc ret nL rm) {x y : Int32} {off : Int} {tgt : Nat} (hd : decode cc pc = .ok (.if_icmp .le off, 3)) (ht : (pc : Int) + off = (tgt : Int)) (kt : x ≤ y → em_G X D b0 cT ad nL sh n kc ks M (tgt) lv (rest)) (kf : ¬ x ≤ y → em_G X D b0 cT ad nL sh n kc ks M (pc + 3) lv (rest)) : em_G X D b0 cT ad nL sh n kc ks M (pc) lv (.int y :: .int x :: rest) :=
  fun ls H locs h1 h2 h3 => lv_icmp_le C.x C.b hd ht (fun h => kt h ls H locs h1 h2 h3) (fun h => kf h ls H locs h1 h2 h3)
theorem g_goto (C : em_Cx X D b0 cT own cc ret nL rm) {off : Int} {tgt : Nat} (hd : decode cc pc = .ok (.goto off, 3)) (ht : (pc : Int) + off = (tgt : Int)) (kk : em_G X D b0 cT ad nL sh n kc ks M (tgt) lv (rest)) : em_G X D b0 cT ad nL sh n kc ks M (pc) lv (rest) :=
  fun ls H locs h1 h2 h3 => lv_goto C.x C.b hd ht (kk ls H locs h1 h2 h3)
theorem g_tableOut (C : em_Cx X D b0 cT own cc ret nL rm) {dflt lo hi : Int} {offs : Array Int} {len : Nat} {x : Int32} {tgt : Nat} (hd : decode cc pc = .ok (.tableswitch dflt lo hi offs, len)) (h : x.toInt < lo ∨ hi < x.toInt) (ht : (pc : Int) + dflt = (tgt : Int)) (kk : em_G X D b0 cT ad nL sh n kc ks M (tgt) lv (rest)) : em_G X D b0 cT ad nL sh n kc ks M (pc) lv (.int x :: rest) :=
  fun ls H locs h1 h2 h3 => lv_tableOut C.x C.b hd h ht (kk ls H locs h1 h2 h3)
theorem g_tableIn (C : em_Cx X D b0 cT own cc ret nL rm) {dflt lo hi : Int} {offs : Array Int} {len : Nat} {x : Int32} {off : Int} {tgt : Nat} (hd : decode cc pc = .ok (.tableswitch dflt lo hi offs, len)) (ha : ¬ x.toInt < lo) (hb : ¬ hi < x.toInt) (ho : offs[(x.toInt - lo).toNat]? = some off) (ht : (pc : Int) + off = (tgt : Int)) (kk : em_G X D b0 cT ad nL sh n kc ks M (tgt) lv (rest)) : em_G X D b0 cT ad nL sh n kc ks M (pc) lv (.int x :: rest) :=
  fun ls H locs h1 h2 h3 => lv_tableIn C.x C.b hd ha hb ho ht (kk ls H locs h1 h2 h3)
theorem g_topi {x : Int32} (kk : ∀ y : Int32, y = x → em_G X D b0 cT ad nL sh n kc ks M (pc) lv (.int y :: rest)) : em_G X D b0 cT ad nL sh n kc ks M (pc) lv (.int x :: rest) := kk x rfl
theorem g_sub (ks' : List Nat) (hl : lv_pick lv ks' = lv') (kk : em_G X D b0 cT ad nL sh n kc ks M (pc) lv' (st)) : em_G X D b0 cT ad nL sh n kc ks M (pc) lv (st) :=
  fun ls H locs h1 h2 h3 => kk ls H locs (lv_sub h1 ks' hl) h2 h3
theorem g_eqM {M' : em_M} (h : M = M') (kk : em_G X D b0 cT ad nL sh n kc ks M' (pc) lv (st)) : em_G X D b0 cT ad nL sh n kc ks M (pc) lv (st) := h ▸ kk
theorem em_P.at {k : Nat} {H : Heap} (h : em_P D b0 cT ad sh n M H) (hk : k < n) : (em_w cT ad sh n M)[k]? = some (ad k, em_ct cT (sh k) (M k)) := em_w_at hk
theorem em_ct_obj {k ci : Nat} {fs : List (Option (Option Nat))} (hs : sh k = .inr (.inl (ci, fs))) : em_ct cT (sh k) (M k) = .inr (ci, em_fs (M k) 0 fs) := by rw [hs]; rfl
theorem em_ct_arr {k t len : Nat} (hs : sh k = .inl (t, len)) : em_ct cT (sh k) (M k) = .inl (cT t, len, .inl (M k)) := by rw [hs]; rfl
theorem em_ct_ref {k t len : Nat} {f : Nat → Option Nat} (hs : sh k = .inr (.inr (t, len, f))) : em_ct cT (sh k) (M k) = .inl (cT t, len, .inr (.inr (.inr (.inr f)))) := by rw [hs]; rfl
theorem em_at_obj {k ci : Nat} {fs : List (Option (Option Nat))} (hk : k < n) (hs : sh k = .inr (.inl (ci, fs))) : (em_w cT ad sh n M)[k]? = some (ad k, .inr (ci, em_fs (M k) 0 fs)) := by rw [em_w_at hk, em_ct_obj hs]
theorem em_at_arr {k t len : Nat} (hk : k < n) (hs : sh k = .inl (t, len)) : (em_w cT ad sh n M)[k]? = some (ad k, .inl (cT t, len, .inl (M k))) := by rw [em_w_at hk, em_ct_arr hs]
theorem em_at_ref {k t len : Nat} {f : Nat → Option Nat} (hk : k < n) (hs : sh k = .inr (.inr (t, len, f))) : (em_w cT ad sh n M)[k]? = some (ad k, .inl (cT t, len, .inr (.inr (.inr (.inr f))))) := by rw [em_w_at hk, em_ct_ref hs]
theorem em_fs_i {g : Nat → Int32} {fs : List (Option (Option Nat))} {j : Nat} (h : fs[j]? = some none) : (em_fs g 0 fs)[j]? = some (.int (g j)) := by
  rw [em_fs_get fs 0 j none h, Nat.zero_add]; rfl
theorem em_fs_r {g : Nat → Int32} {fs : List (Option (Option Nat))} {j a : Nat} (h : fs[j]? = some (some (some a))) : (em_fs g 0 fs)[j]? = some (.ref a) := by
  rw [em_fs_get fs 0 j (some (some a)) h]; rfl
theorem g_geti (C : em_Cx X D b0 cT own cc ret nL rm) {ci ix N a0 : Nat} {Cn ref : String} {T : u_T} {fs : List (Option (Option Nat))} (k j : Nat) (ha : ad k = a0) (hd : decode cc pc = .ok (.getfield ix, 3)) (hk : k < n) (hs : sh k = .inr (.inl (ci, fs))) (hc : vwCl[ci]? = some (Cn, T, N)) (hj : j < N) (hf : fs[j]? = some none) (hin : ∀ w ∈ u_ws Cn T N, w ∈ wAll) (hlink : Cond.fieldLink own ix ref (T j).2.1 (T j).2.2.1 ∈ wAll) (href : (T j).1 = ref) (kk : em_G X D b0 cT ad nL sh n kc ks M (pc + 3) lv (.int (M k j) :: rest)) : em_G X D b0 cT ad nL sh n kc ks M (pc) lv (.ref a0 :: rest) := by
  subst ha
  exact fun ls H locs h1 h2 h3 => va_get C.x C.b C.ts hin C.ow C.K h2.1 k (em_at_obj hk hs) hc j hj (C.ts _ hlink) (fun x hx => by rw [← href]; exact hx) (em_fs_i hf) hd (kk ls H locs h1 h2 h3)
theorem g_getr (C : em_Cx X D b0 cT own cc ret nL rm) {ci ix N a0 : Nat} {Cn ref : String} {T : u_T} {fs : List (Option (Option Nat))} {a : Nat} (k j : Nat) (ha : ad k = a0) (hd : decode cc pc = .ok (.getfield ix, 3)) (hk : k < n) (hs : sh k = .inr (.inl (ci, fs))) (hc : vwCl[ci]? = some (Cn, T, N)) (hj : j < N) (hf : fs[j]? = some (some (some a))) (hin : ∀ w ∈ u_ws Cn T N, w ∈ wAll) (hlink : Cond.fieldLink own ix ref (T j).2.1 (T j).2.2.1 ∈ wAll) (href : (T j).1 = ref) (kk : em_G X D b0 cT ad nL sh n kc ks M (pc + 3) lv (.ref a :: rest)) : em_G X D b0 cT ad nL sh n kc ks M (pc) lv (.ref a0 :: rest) := by
  subst ha
  exact fun ls H locs h1 h2 h3 => va_get C.x C.b C.ts hin C.ow C.K h2.1 k (em_at_obj hk hs) hc j hj (C.ts _ hlink) (fun x hx => by rw [← href]; exact hx) (em_fs_r hf) hd (kk ls H locs h1 h2 h3)
theorem g_getiN (C : em_Cx X D b0 cT own cc ret nL rm) {ci ix N a0 : Nat} {Cn ref : String} {host : String} {T : u_T} {fs : List (Option (Option Nat))} (k j : Nat) (ha : ad k = a0) (hd : decode cc pc = .ok (.getfield ix, 3)) (hk : k < n) (hs : sh k = .inr (.inl (ci, fs))) (hc : vwCl[ci]? = some (Cn, T, N)) (hj : j < N) (hf : fs[j]? = some none) (hin : ∀ w ∈ u_ws Cn T N, w ∈ wAll) (hlink : Cond.fieldLinkNest own ix ref (T j).2.1 (T j).2.2.1 host ∈ em_nw) (href : (T j).1 = ref) (kk : em_G X D b0 cT ad nL sh n kc ks M (pc + 3) lv (.int (M k j) :: rest)) : em_G X D b0 cT ad nL sh n kc ks M (pc) lv (.ref a0 :: rest) := by
  subst ha
  exact fun ls H locs h1 h2 h3 => va_getN C.x C.b C.ts hin C.ow C.K h2.1 k (em_at_obj hk hs) hc j hj (va_Nw.use rfl (C.N.1 _ hlink)) (fun x hx => by rw [← href]; exact hx) (em_fs_i hf) hd (kk ls H locs h1 h2 h3)
theorem g_getrN (C : em_Cx X D b0 cT own cc ret nL rm) {ci ix N a0 : Nat} {Cn ref : String} {host : String} {T : u_T} {fs : List (Option (Option Nat))} {a : Nat} (k j : Nat) (ha : ad k = a0) (hd : decode cc pc = .ok (.getfield ix, 3)) (hk : k < n) (hs : sh k = .inr (.inl (ci, fs))) (hc : vwCl[ci]? = some (Cn, T, N)) (hj : j < N) (hf : fs[j]? = some (some (some a))) (hin : ∀ w ∈ u_ws Cn T N, w ∈ wAll) (hlink : Cond.fieldLinkNest own ix ref (T j).2.1 (T j).2.2.1 host ∈ em_nw) (href : (T j).1 = ref) (kk : em_G X D b0 cT ad nL sh n kc ks M (pc + 3) lv (.ref a :: rest)) : em_G X D b0 cT ad nL sh n kc ks M (pc) lv (.ref a0 :: rest) := by
  subst ha
  exact fun ls H locs h1 h2 h3 => va_getN C.x C.b C.ts hin C.ow C.K h2.1 k (em_at_obj hk hs) hc j hj (va_Nw.use rfl (C.N.1 _ hlink)) (fun x hx => by rw [← href]; exact hx) (em_fs_r hf) hd (kk ls H locs h1 h2 h3)
theorem g_puti (C : em_Cx X D b0 cT own cc ret nL rm) {ci ix N a0 : Nat} {Cn ref : String} {T : u_T} {fs : List (Option (Option Nat))} {x : Int32} {ty : FieldType} (k j : Nat) (ha : ad k = a0) (ty0 : Nat → FieldType) (hty : ∀ k, k < N → parseFieldDescriptor (T k).2.2.1 = some (ty0 k)) (hnm : ∀ a, a < N → ∀ b, b < N → a ≠ b → (T a).2.1 ≠ (T b).2.1) (hd : decode cc pc = .ok (.putfield ix, 3)) (hk : k < n) (hs : sh k = .inr (.inl (ci, fs))) (hc : vwCl[ci]? = some (Cn, T, N)) (hj : j < N) (hf : fs[j]? = some none) (hin : ∀ w ∈ u_ws Cn T N, w ∈ wAll) (hlink : Cond.fieldLink own ix ref (T j).2.1 (T j).2.2.1 ∈ wAll) (href : (T j).1 = ref) (hfin : (T j).2.2.2 = false) (hdt : parseFieldDescriptor (T j).2.2.1 = some ty) (hn : narrow ty (.int x) = .int x) (hfit : fits ty (.int x) = true) (kk : em_G X D b0 cT ad nL sh n kc ks (em_up M k j x) (pc + 3) lv (rest)) : em_G X D b0 cT ad nL sh n kc ks M (pc) lv (.int x :: .ref a0 :: rest) := by
  subst ha
  intro ls H locs h1 h2 h3
  have e : (em_w cT ad sh n M).set k (ad k, .inr (ci, (em_fs (M k) 0 fs).set j (.int x))) = em_w cT ad sh n (em_up M k j x) := by
    rw [em_fs_seti fs 0 j hf, Nat.zero_add]
    have e2 : (Sum.inr (ci, em_fs (upd (M k) j x) 0 fs) : va_E) = em_ct cT (sh k) (upd (M k) j x) := by rw [hs]; rfl
    rw [e2, em_w_seti]
    rfl
  refine va_put C.x C.b C.ts hin ty0 hty hnm C.ow C.K h2.1 h2.2 h3 k (em_at_obj hk hs) hc j hj (C.ts _ hlink) (fun x hx => by rw [← href]; exact hx) hfin hdt hn hfit (by rw [em_fs_len]; exact (List.getElem?_eq_some_iff.mp hf).1) hd (fun H1 locs1 a1 a2 a3 => ?_)
  rw [e] at a1 a2
  exact kk ls H1 locs1 h1 ⟨a1, a2⟩ a3
theorem g_putiN (C : em_Cx X D b0 cT own cc ret nL rm) {ci ix N a0 : Nat} {Cn ref : String} {host : String} {T : u_T} {fs : List (Option (Option Nat))} {x : Int32} {ty : FieldType} (k j : Nat) (ha : ad k = a0) (ty0 : Nat → FieldType) (hty : ∀ k, k < N → parseFieldDescriptor (T k).2.2.1 = some (ty0 k)) (hnm : ∀ a, a < N → ∀ b, b < N → a ≠ b → (T a).2.1 ≠ (T b).2.1) (hd : decode cc pc = .ok (.putfield ix, 3)) (hk : k < n) (hs : sh k = .inr (.inl (ci, fs))) (hc : vwCl[ci]? = some (Cn, T, N)) (hj : j < N) (hf : fs[j]? = some none) (hin : ∀ w ∈ u_ws Cn T N, w ∈ wAll) (hlink : Cond.fieldLinkNest own ix ref (T j).2.1 (T j).2.2.1 host ∈ em_nw) (href : (T j).1 = ref) (hfin : (T j).2.2.2 = false) (hdt : parseFieldDescriptor (T j).2.2.1 = some ty) (hn : narrow ty (.int x) = .int x) (hfit : fits ty (.int x) = true) (kk : em_G X D b0 cT ad nL sh n kc ks (em_up M k j x) (pc + 3) lv (rest)) : em_G X D b0 cT ad nL sh n kc ks M (pc) lv (.int x :: .ref a0 :: rest) := by
  subst ha
  intro ls H locs h1 h2 h3
  have e : (em_w cT ad sh n M).set k (ad k, .inr (ci, (em_fs (M k) 0 fs).set j (.int x))) = em_w cT ad sh n (em_up M k j x) := by
    rw [em_fs_seti fs 0 j hf, Nat.zero_add]
    have e2 : (Sum.inr (ci, em_fs (upd (M k) j x) 0 fs) : va_E) = em_ct cT (sh k) (upd (M k) j x) := by rw [hs]; rfl
    rw [e2, em_w_seti]
    rfl
  refine va_putN C.x C.b C.ts hin ty0 hty hnm C.ow C.K h2.1 h2.2 h3 k (em_at_obj hk hs) hc j hj (va_Nw.use rfl (C.N.1 _ hlink)) (fun x hx => by rw [← href]; exact hx) hfin hdt hn hfit (by rw [em_fs_len]; exact (List.getElem?_eq_some_iff.mp hf).1) hd (fun H1 locs1 a1 a2 a3 => ?_)
  rw [e] at a1 a2
  exact kk ls H1 locs1 h1 ⟨a1, a2⟩ a3
theorem g_putF (C : em_Cx X D b0 cT own cc ret nL rm) {ci ix N a a0 : Nat} {Cn ref : String} {T : u_T} {fs : List (Option (Option Nat))} {ty : FieldType} (k j : Nat) (ha : ad k = a0) (ty0 : Nat → FieldType) (hty : ∀ k, k < N → parseFieldDescriptor (T k).2.2.1 = some (ty0 k)) (hnm : ∀ a, a < N → ∀ b, b < N → a ≠ b → (T a).2.1 ≠ (T b).2.1) (hd : decode cc pc = .ok (.putfield ix, 3)) (hk : k < n) (hs : sh k = .inr (.inl (ci, fs))) (hc : vwCl[ci]? = some (Cn, T, N)) (hj : j < N) (hl : j < fs.length) (hin : ∀ w ∈ u_ws Cn T N, w ∈ wAll) (hlink : Cond.fieldLink own ix ref (T j).2.1 (T j).2.2.1 ∈ wAll) (href : (T j).1 = ref) (hfin : (T j).2.2.2 = true) (hin2 : (xM X).name = "<init>") (hdecl : (T j).1 = own) (hdt : parseFieldDescriptor (T j).2.2.1 = some ty) (hn : narrow ty (.ref a) = .ref a) (hfit : fits ty (.ref a) = true) (kk : em_G X D b0 cT ad nL (va_up sh k (.inr (.inl (ci, fs.set j (some (some a)))))) n kc ks M (pc + 3) lv rest) : em_G X D b0 cT ad nL sh n kc ks M (pc) lv (.ref a :: .ref a0 :: rest) := by
  subst ha
  intro ls H locs h1 h2 h3
  have e : (em_w cT ad sh n M).set k (ad k, .inr (ci, (em_fs (M k) 0 fs).set j (.ref a))) = em_w cT ad (va_up sh k (.inr (.inl (ci, fs.set j (some (some a)))))) n M := by
    have e1 : (em_fs (M k) 0 fs).set j (.ref a) = em_fs (M k) 0 (fs.set j (some (some a))) := em_fs_setr (r0 := some a) fs 0 j
    rw [e1]
    have e2 : (Sum.inr (ci, em_fs (M k) 0 (fs.set j (some (some a)))) : va_E) = em_ct cT (.inr (.inl (ci, fs.set j (some (some a))))) (M k) := rfl
    rw [e2, em_w_set, em_up_same]
  refine va_putF C.x C.b C.ts hin ty0 hty hnm C.ow C.K h2.1 h2.2 h3 k (em_at_obj hk hs) hc j hj (C.ts _ hlink) (fun x hx => by rw [← href]; exact hx) hfin hin2 hdecl hdt hn hfit (by rw [em_fs_len]; exact hl) hd (fun H1 locs1 a1 a2 a3 => ?_)
  rw [e] at a1 a2
  exact kk ls H1 locs1 h1 ⟨a1, a2⟩ a3
theorem g_iald (C : em_Cx X D b0 cT own cc ret nL rm) {t len a0 : Nat} {i : Int32} (k : Nat) (ha : ad k = a0) (hd : decode cc pc = .ok (.iaload, 1)) (hk : k < n) (hs : sh k = .inl (t, len)) (ht : (em_tys cT)[t]? = some (cT t, .int)) (hi : vp_in i len) (kk : em_G X D b0 cT ad nL sh n kc ks M (pc + 1) lv (.int (M k i.toNatClampNeg) :: rest)) : em_G X D b0 cT ad nL sh n kc ks M (pc) lv (.int i :: .ref a0 :: rest) := by
  subst ha
  exact fun ls H locs h1 h2 h3 => va_iald C.x C.b C.K h2.1 k t (em_at_arr hk hs) ht hi hd (kk ls H locs h1 h2 h3)
theorem g_iast (C : em_Cx X D b0 cT own cc ret nL rm) {t len a0 : Nat} {i x : Int32} (k : Nat) (ha : ad k = a0) (hd : decode cc pc = .ok (.iastore, 1)) (hk : k < n) (hs : sh k = .inl (t, len)) (ht : (em_tys cT)[t]? = some (cT t, .int)) (hi : vp_in i len) (kk : em_G X D b0 cT ad nL sh n kc ks (em_up M k i.toNatClampNeg x) (pc + 1) lv (rest)) : em_G X D b0 cT ad nL sh n kc ks M (pc) lv (.int x :: .int i :: .ref a0 :: rest) := by
  subst ha
  intro ls H locs h1 h2 h3
  have e : (em_w cT ad sh n M).set k (ad k, .inl (cT t, len, .inl (upd (M k) i.toNatClampNeg x))) = em_w cT ad sh n (em_up M k i.toNatClampNeg x) := by
    have e2 : (Sum.inl (cT t, len, .inl (upd (M k) i.toNatClampNeg x)) : va_E) = em_ct cT (sh k) (upd (M k) i.toNatClampNeg x) := by rw [hs]; rfl
    rw [e2, em_w_seti]
    rfl
  refine va_iast C.x C.b C.K h2.1 h2.2 h3 k t (em_at_arr hk hs) ht hi hd (fun H1 locs1 a1 a2 a3 => ?_)
  rw [e] at a1 a2
  exact kk ls H1 locs1 h1 ⟨a1, a2⟩ a3
theorem g_alen (C : em_Cx X D b0 cT own cc ret nL rm) {t len a0 : Nat} {ty : FieldType} {v : Int32} (k : Nat) (ha : ad k = a0) (hd : decode cc pc = .ok (.arraylength, 1)) (hk : k < n) (hs : sh k = .inl (t, len)) (ht : (em_tys cT)[t]? = some (cT t, ty)) (hv : Int32.ofNat len = v) (kk : em_G X D b0 cT ad nL sh n kc ks M (pc + 1) lv (.int v :: rest)) : em_G X D b0 cT ad nL sh n kc ks M (pc) lv (.ref a0 :: rest) := by
  subst ha
  exact fun ls H locs h1 h2 h3 => va_alen C.x C.b C.K h2.1 k t (em_at_arr hk hs) ht hv hd (kk ls H locs h1 h2 h3)
theorem g_aald (C : em_Cx X D b0 cT own cc ret nL rm) {t len a a0 : Nat} {f : Nat → Option Nat} {Cn : String} {i : Int32} (k : Nat) (ha : ad k = a0) (hd : decode cc pc = .ok (.aaload, 1)) (hk : k < n) (hs : sh k = .inr (.inr (t, len, f))) (ht : (em_tys cT)[t]? = some (cT t, .object Cn)) (hi : vp_in i len) (hf : f i.toNatClampNeg = some a) (kk : em_G X D b0 cT ad nL sh n kc ks M (pc + 1) lv (.ref a :: rest)) : em_G X D b0 cT ad nL sh n kc ks M (pc) lv (.int i :: .ref a0 :: rest) := by
  subst ha
  intro ls H locs h1 h2 h3
  refine va_aldq C.x C.b C.K h2.1 k t (em_at_ref hk hs) ht hi hd ?_
  rw [hf]
  exact kk ls H locs h1 h2 h3
theorem g_mmax (C : em_Cx X D b0 cT own cc ret nL rm) {ix : Nat} {x y : Int32} (hd : decode cc pc = .ok (.invokestatic ix, 3)) (a1 : Cond.methodLink own ix Lib.Math.max.name ∈ wAll) (a2 : Cond.static Lib.Math.max.name ∈ wAll) (a3 : Cond.initialized "java/lang/Math" ∈ wAll) (a4 : Cond.code Lib.Math.max.name Lib.Math.max.code 2 (some .int) ∈ wAll) (hfr : 1 ≤ rm.frames) (hlo : (rest.map fun v => v.category).sum + 13 ≤ rm.locals) (hc : kc ≤ rm.cells) (hs : ks ≤ rm.slots) (kk : em_G X D b0 cT ad nL sh n kc ks M (pc + 3) lv (.int (if x < y then y else x) :: rest)) : em_G X D b0 cT ad nL sh n kc ks M (pc) lv (.int y :: .int x :: rest) :=
  fun ls H locs h1 h2 h3 => va_mmax C.x C.b (C.ml.trans h1.1.symm) C.ow (C.ts _ a1) (C.ts _ a2) (C.ts _ a3) (C.ts _ a4) (by rw [C.R]; exact hfr) (by rw [C.R]; exact hlo) (by rw [C.R]; exact hc) (by rw [C.R]; exact hs) hd (kk ls H locs h1 h2 h3)
theorem g_mmin (C : em_Cx X D b0 cT own cc ret nL rm) {ix : Nat} {x y : Int32} (hd : decode cc pc = .ok (.invokestatic ix, 3)) (a1 : Cond.methodLink own ix Lib.Math.min.name ∈ wAll) (a2 : Cond.static Lib.Math.min.name ∈ wAll) (a3 : Cond.initialized "java/lang/Math" ∈ wAll) (a4 : Cond.code Lib.Math.min.name Lib.Math.min.code 2 (some .int) ∈ wAll) (hfr : 1 ≤ rm.frames) (hlo : (rest.map fun v => v.category).sum + 13 ≤ rm.locals) (hc : kc ≤ rm.cells) (hs : ks ≤ rm.slots) (kk : em_G X D b0 cT ad nL sh n kc ks M (pc + 3) lv (.int (if y < x then y else x) :: rest)) : em_G X D b0 cT ad nL sh n kc ks M (pc) lv (.int y :: .int x :: rest) :=
  fun ls H locs h1 h2 h3 => va_mmin C.x C.b (C.ml.trans h1.1.symm) C.ow (C.ts _ a1) (C.ts _ a2) (C.ts _ a3) (C.ts _ a4) (by rw [C.R]; exact hfr) (by rw [C.R]; exact hlo) (by rw [C.R]; exact hc) (by rw [C.R]; exact hs) hd (kk ls H locs h1 h2 h3)
theorem g_copyi (C : em_Cx X D b0 cT own cc ret nL rm) {ix t n0 n1 a0' a1' : Nat} {sp dp len : Int32} (k0 k1 : Nat) (ha0 : ad k0 = a0') (ha1 : ad k1 = a1') (hd : decode cc pc = .ok (.invokestatic ix, 3)) (a1 : Cond.methodLink own ix arraycopyName ∈ wAll) (a2 : Cond.native arraycopyName ∈ wAll) (a3 : Cond.static arraycopyName ∈ wAll) (a4 : Cond.initialized "java/lang/System" ∈ wAll) (hk0 : k0 < n) (hk1 : k1 < n) (hs0 : sh k0 = .inl (t, n0)) (hs1 : sh k1 = .inl (t, n1)) (ht : (em_tys cT)[t]? = some (cT t, .int)) (h4 : ¬ sp < 0) (h5 : ¬ dp < 0) (h6 : ¬ len < 0) (h7 : sp.toNatClampNeg + len.toNatClampNeg ≤ n0) (h8 : dp.toNatClampNeg + len.toNatClampNeg ≤ n1) (hfr : 1 ≤ rm.frames) (hlo : (rest.map fun v => v.category).sum + (nativeFrameWords "java/lang/System" "arraycopy" 5 + 11) ≤ rm.locals) (kk : em_G X D b0 cT ad nL sh n kc ks (va_up M k1 (va_cpy (M k0) (M k1) sp.toNatClampNeg dp.toNatClampNeg len.toNatClampNeg)) (pc + 3) lv (rest)) : em_G X D b0 cT ad nL sh n kc ks M (pc) lv (.int len :: .int dp :: .ref a1' :: .int sp :: .ref a0' :: rest) := by
  subst ha0
  subst ha1
  intro ls H locs h1 h2 h3
  have e : (em_w cT ad sh n M).set k1 (ad k1, .inl (cT t, n1, .inl (va_cpy (M k0) (M k1) sp.toNatClampNeg dp.toNatClampNeg len.toNatClampNeg))) = em_w cT ad sh n (va_up M k1 (va_cpy (M k0) (M k1) sp.toNatClampNeg dp.toNatClampNeg len.toNatClampNeg)) := by
    have e2 : (Sum.inl (cT t, n1, .inl (va_cpy (M k0) (M k1) sp.toNatClampNeg dp.toNatClampNeg len.toNatClampNeg)) : va_E) = em_ct cT (sh k1) (va_cpy (M k0) (M k1) sp.toNatClampNeg dp.toNatClampNeg len.toNatClampNeg) := by rw [hs1]; rfl
    rw [e2, em_w_seti]
  refine va_copyi (ty := .int) C.x C.b (C.ml.trans h1.1.symm) C.ow (C.ts _ a1) (C.ts _ a2) (C.ts _ a3) (C.ts _ a4) C.K h2.1 h2.2 h3 k0 k1 t t (em_at_arr hk0 hs0) (em_at_arr hk1 hs1) ht ht rfl h4 h5 h6 h7 h8 (fun i _ => rfl) (by rw [C.R]; exact hfr) (by rw [C.R]; exact hlo) hd (fun H1 locs1 a1 a2 a3 => ?_)
  rw [e] at a1 a2
  exact kk ls H1 locs1 h1 ⟨a1, a2⟩ a3
theorem g_nameM (kk : ∀ M' : em_M, M' = M → em_G X D b0 cT ad nL sh n kc ks M' pc lv st) : em_G X D b0 cT ad nL sh n kc ks M pc lv st := kk M rfl
/-- what a method finds, and leaves: the world, the classes, the words of the nest -/
def em_U (D : va_G) (b0 : Nat) (cT : Nat → ClassId) (ad : Nat → Nat) (sh : Nat → em_Sh) (n : Nat) (M : em_M) (U : State) : Prop := em_P D b0 cT ad sh n M U.heap ∧ va_K D vwCl (em_tys cT) U ∧ em_N U ∧ b0 ≤ U.heap.size
theorem em_N.same {u U : State} (h : u.vm = U.vm) (hN : em_N u) : em_N U := ⟨fun w hw => va_Nw.same (em_nw_tab w hw) h (hN.1 w hw), va_AO.moved (u := u) (h ▸ Vm.Alike.refl u.vm) hN.2⟩
theorem em_N.warm {s U : State} (hW : s.WarmedH U.vm) (hN : em_N s) : em_N U := by
  refine ⟨?_, va_AO.moved hW.alike hN.2⟩
  intro w hw
  have h := hN.1 w hw
  unfold em_nw at hw
  rcases List.mem_append.mp hw with hw | hw
  · obtain ⟨q, -, rfl⟩ := List.mem_map.mp hw
    exact va_Nw.warmF hW h
  · obtain ⟨q, -, rfl⟩ := List.mem_map.mp hw
    exact va_Nw.warmM hW h
theorem em_blind {vs : List Value} : FrameBlind (va_Pc vs (em_U D b0 cT ad sh n M)) := fun a U g mk q => by
  obtain ⟨q0, q1, q2, q3, q4⟩ := q
  exact ⟨q0, q1, va_K.moved (u := U) (U := U.calling g mk a) (Vm.Alike.refl U.vm) q2, em_N.same (u := U) rfl q3, q4⟩
theorem em_give (C : em_Cx X D b0 cT own cc ret nL rm) {H : Heap} {locs : List Loc} (h2 : em_P D b0 cT ad sh n M H) (h3 : va_S (em_A b0) (xS X).heap H locs) {U : State} (hU : U.heap = H) (hW : (xS X).WarmedH U.vm) : em_U D b0 cT ad sh n M U :=
  ⟨by rw [hU]; exact h2, va_K.moved hW.alike C.K, em_N.warm hW C.N, by rw [hU]; exact Nat.le_trans C.sz h3.1⟩
section EmCalls
variable {y : MethodName} {bytes : ByteArray} {maxL mc ms na ix a0 : Nat} {retc : Option FieldType} {wsc : List Cond} {rmc : Room} {As : List Value} {Cn host : String}
theorem em_good1 : ∀ w ∈ wAll, (w.onTables && w.keeps) = true ∨ ∃ ty, w = .arrayClass ty := fun w h => (wgAll w h).2
theorem em_goodL {l : List Cond} (h : ∀ w ∈ l, w ∈ wAll) : GoodIn wAll l := fun w hw => ⟨h w hw, em_good1 _ (h w hw)⟩
theorem em_goodC {x : Cond} (h : x ∈ wAll) : ∀ w ∈ x :: wAll, w ∈ wAll := List.forall_mem_cons.mpr ⟨h, fun _ h => h⟩
theorem em_cwV (C : em_Cx X D b0 cT own cc ret nL rm) (na : Nat) (h1 : Cond.methodLink own ix y ∈ wAll) (h2 : Cond.instanceMethod y ∈ wAll) (h3 : Cond.selects Cn y y ∈ wAll) (h4 : Cond.initialized Cn ∈ wAll) (h5 : Cond.code y bytes maxL retc ∈ wAll) (hrc : rmc.cells = mc) (hrs : rmc.slots = ms)
    (hd : y.cls = Cn ∧ y.cls ≠ "java/lang/invoke/MethodHandle" ∧ y.cls ≠ "java/lang/invoke/VarHandle" ∧ (parseMethodDescriptor y.desc).map (fun d => d.parameters.length) = some na) (hR : rmc.frames + 1 ≤ rm.frames ∧ 8 + (maxL + 11) + rmc.locals ≤ rm.locals) :
    CallW (xR X) (xS X) (xA X) own Cn ix y bytes maxL retc (Cond.code y bytes maxL retc :: wAll) rmc mc ms na :=
  cwV na C.ts (em_goodL (List.forall_mem_append.mpr ⟨List.forall_mem_cons.mpr ⟨h1, List.forall_mem_cons.mpr ⟨h2, List.forall_mem_cons.mpr ⟨h3, List.forall_mem_cons.mpr ⟨h4, fun _ h => absurd h List.not_mem_nil⟩⟩⟩⟩, em_goodC h5⟩)) rfl hrc hrs hd (by rw [C.R]; exact hR)
theorem em_cwS (C : em_Cx X D b0 cT own cc ret nL rm) (na : Nat) (h1 : Cond.methodLink own ix y ∈ wAll) (h2 : Cond.static y ∈ wAll) (h4 : Cond.initialized own ∈ wAll) (h5 : Cond.code y bytes maxL retc ∈ wAll) (hrc : rmc.cells = mc) (hrs : rmc.slots = ms)
    (hd : y.cls = own ∧ y.cls ≠ "java/lang/invoke/MethodHandle" ∧ y.cls ≠ "java/lang/invoke/VarHandle" ∧ (parseMethodDescriptor y.desc).map (fun d => d.parameters.length) = some na) (hR : rmc.frames + 1 ≤ rm.frames ∧ 8 + (maxL + 11) + rmc.locals ≤ rm.locals) :
    CallB (xR X) (xS X) (xA X) own ix y bytes maxL retc (Cond.code y bytes maxL retc :: wAll) rmc mc ms na ∧ (Cond.static y).before (xA X) (xS X) = true :=
  cwS na C.ts (em_goodL (List.forall_mem_append.mpr ⟨List.forall_mem_cons.mpr ⟨h1, List.forall_mem_cons.mpr ⟨h2, List.forall_mem_cons.mpr ⟨h4, fun _ h => absurd h List.not_mem_nil⟩⟩⟩, em_goodC h5⟩)) rfl hrc hrs hd (by rw [C.R]; exact hR)
theorem em_cwI (C : em_Cx X D b0 cT own cc ret nL rm) (na : Nat) (h1 : Cond.methodLink own ix y ∈ wAll) (h2 : Cond.instanceMethod y ∈ wAll) (h4 : Cond.initialized y.cls ∈ wAll) (h5 : Cond.code y bytes maxL none ∈ wAll) (hrc : rmc.cells = mc) (hrs : rmc.slots = ms) (hy : y.name = "<init>")
    (hd : y.cls ≠ "java/lang/invoke/MethodHandle" ∧ y.cls ≠ "java/lang/invoke/VarHandle" ∧ (parseMethodDescriptor y.desc).map (fun d => d.parameters.length) = some na) (hR : rmc.frames + 1 ≤ rm.frames ∧ 8 + (maxL + 11) + rmc.locals ≤ rm.locals) :
    CallB (xR X) (xS X) (xA X) own ix y bytes maxL none (Cond.code y bytes maxL none :: wAll) rmc mc ms na ∧ y.name = "<init>" ∧ (Cond.instanceMethod y).before (xA X) (xS X) = true :=
  cwI na C.ts (em_goodL (em_goodC h5)) rfl hrc hrs (C.ts _ h4) (C.ts _ h1) (C.ts _ h2) hy hd (by rw [C.R]; exact hR)
theorem em_cnB (C : em_Cx X D b0 cT own cc ret nL rm) (na : Nat) (hl : Cond.methodLinkNest own ix y host ∈ em_nw) (h4 : Cond.initialized y.cls ∈ wAll) (h5 : Cond.code y bytes maxL retc ∈ wAll) (hrc : rmc.cells = mc) (hrs : rmc.slots = ms)
    (hd : y.cls ≠ "java/lang/invoke/MethodHandle" ∧ y.cls ≠ "java/lang/invoke/VarHandle" ∧ (parseMethodDescriptor y.desc).map (fun d => d.parameters.length) = some na) (hR : rmc.frames + 1 ≤ rm.frames ∧ 8 + (maxL + 11) + rmc.locals ≤ rm.locals) :
    va_CN (xR X) (xS X) (xA X) own ix y host bytes maxL retc (Cond.code y bytes maxL retc :: wAll) rmc mc ms na := va_cnB na C.ts (em_goodL (em_goodC h5)) rfl hrc hrs (C.N.1 _ hl) (C.ts _ h4) hd (by rw [C.R]; exact hR)
theorem g_callVi (C : em_Cx X D b0 cT own cc ret nL rm) {ci N : Nat} {T : u_T} {fs : List (Option (Option Nat))} {post : Int32 → em_M → Prop} (k : Nat) (ha : ad k = a0) (As : List Value) (rest : List Value)
    (hM : Met (xL X) y wsc rmc (va_Pc (.ref (ad k) :: As) (em_U D b0 cT ad sh n M)) (va_Qi post (em_U D b0 cT ad sh n) (em_A b0)) 0 0 (em_A b0))
    (cw : CallW (xR X) (xS X) (xA X) own Cn ix y bytes maxL retc wsc rmc 0 0 na) (hk : k < n) (hs : sh k = .inr (.inl (ci, fs))) (hc : vwCl[ci]? = some (Cn, T, N)) (hn : As.length = na) (hst : st = As.reverse ++ .ref a0 :: rest)
    (hW : (rest.map fun v => v.category).sum ≤ 8) (hd : decode cc pc = .ok (.invokevirtual ix, 3)) (hcs : kc ≤ rm.cells ∧ ks ≤ rm.slots) (kk : ∀ r M', post r M' → em_G X D b0 cT ad nL sh n kc ks M' (pc + 3) lv (.int r :: rest)) : em_G X D b0 cT ad nL sh n kc ks M pc lv st := by
  subst ha
  subst hst
  intro ls H locs h1 h2 h3
  refine va_calli (va_runV ⟨C.x, C.b, C.ml, C.ow, C.ts⟩ hM cw ⟨em_blind, va_recv C.K h2.1 hc (em_at_obj hk hs), fun U hU hW => ⟨rfl, em_give C h2 h3 hU hW⟩⟩ rfl hn h1.1 rfl (lv_room hW) hd (by rw [C.R]; exact hcs)) h3 (fun q _ h => h) (fun q h => h) (fun r u t H1 locs1 ht hvm hw hB hz1 hk1 hS => ?_)
  have hP1 := hB.1
  rw [ht] at hP1
  exact kk r u hw ls H1 locs1 h1 hP1 hS
theorem g_callVv (C : em_Cx X D b0 cT own cc ret nL rm) {ci N : Nat} {T : u_T} {fs : List (Option (Option Nat))} {post : em_M → Prop} (k : Nat) (ha : ad k = a0) (As : List Value) (rest : List Value)
    (hM : Met (xL X) y wsc rmc (va_Pc (.ref (ad k) :: As) (em_U D b0 cT ad sh n M)) (va_Qv post (em_U D b0 cT ad sh n) (em_A b0)) 0 0 (em_A b0))
    (cw : CallW (xR X) (xS X) (xA X) own Cn ix y bytes maxL retc wsc rmc 0 0 na) (hk : k < n) (hs : sh k = .inr (.inl (ci, fs))) (hc : vwCl[ci]? = some (Cn, T, N)) (hn : As.length = na) (hst : st = As.reverse ++ .ref a0 :: rest)
    (hW : (rest.map fun v => v.category).sum ≤ 8) (hd : decode cc pc = .ok (.invokevirtual ix, 3)) (hcs : kc ≤ rm.cells ∧ ks ≤ rm.slots) (kk : ∀ M', post M' → em_G X D b0 cT ad nL sh n kc ks M' (pc + 3) lv rest) : em_G X D b0 cT ad nL sh n kc ks M pc lv st := by
  subst ha
  subst hst
  intro ls H locs h1 h2 h3
  refine va_callv (va_runV ⟨C.x, C.b, C.ml, C.ow, C.ts⟩ hM cw ⟨em_blind, va_recv C.K h2.1 hc (em_at_obj hk hs), fun U hU hW => ⟨rfl, em_give C h2 h3 hU hW⟩⟩ rfl hn h1.1 rfl (lv_room hW) hd (by rw [C.R]; exact hcs)) h3 (fun q _ h => h) (fun q h => h) (fun u t H1 locs1 ht hvm hw hB hz1 hk1 hS => ?_)
  have hP1 := hB.1
  rw [ht] at hP1
  exact kk u hw ls H1 locs1 h1 hP1 hS
theorem g_callVNi (C : em_Cx X D b0 cT own cc ret nL rm) {ci N : Nat} {T : u_T} {fs : List (Option (Option Nat))} {post : Int32 → em_M → Prop} (k : Nat) (ha : ad k = a0) (As : List Value) (rest : List Value)
    (hM : Met (xL X) y wsc rmc (va_Pc (.ref (ad k) :: As) (em_U D b0 cT ad sh n M)) (va_Qi post (em_U D b0 cT ad sh n) (em_A b0)) 0 0 (em_A b0))
    (cw : va_CN (xR X) (xS X) (xA X) own ix y host bytes maxL retc wsc rmc 0 0 na) (hi : Cond.instanceMethod y ∈ wAll) (hse : Cond.selects Cn y y ∈ wAll) (hk : k < n) (hs : sh k = .inr (.inl (ci, fs))) (hc : vwCl[ci]? = some (Cn, T, N)) (hn : As.length = na) (hst : st = As.reverse ++ .ref a0 :: rest)
    (hW : (rest.map fun v => v.category).sum ≤ 8) (hd : decode cc pc = .ok (.invokevirtual ix, 3)) (hcs : kc ≤ rm.cells ∧ ks ≤ rm.slots) (kk : ∀ r M', post r M' → em_G X D b0 cT ad nL sh n kc ks M' (pc + 3) lv (.int r :: rest)) : em_G X D b0 cT ad nL sh n kc ks M pc lv st := by
  subst ha
  subst hst
  intro ls H locs h1 h2 h3
  refine va_calli (va_runVN ⟨C.x, C.b, C.ml, C.ow, C.ts⟩ hM ⟨cw, C.ts _ hi, C.ts _ hse⟩ ⟨em_blind, va_recv C.K h2.1 hc (em_at_obj hk hs), fun U hU hW => ⟨rfl, em_give C h2 h3 hU hW⟩⟩ rfl hn h1.1 rfl (lv_room hW) hd (by rw [C.R]; exact hcs)) h3 (fun q _ h => h) (fun q h => h) (fun r u t H1 locs1 ht hvm hw hB hz1 hk1 hS => ?_)
  have hP1 := hB.1
  rw [ht] at hP1
  exact kk r u hw ls H1 locs1 h1 hP1 hS
theorem g_callVNv (C : em_Cx X D b0 cT own cc ret nL rm) {ci N : Nat} {T : u_T} {fs : List (Option (Option Nat))} {post : em_M → Prop} (k : Nat) (ha : ad k = a0) (As : List Value) (rest : List Value)
    (hM : Met (xL X) y wsc rmc (va_Pc (.ref (ad k) :: As) (em_U D b0 cT ad sh n M)) (va_Qv post (em_U D b0 cT ad sh n) (em_A b0)) 0 0 (em_A b0))
    (cw : va_CN (xR X) (xS X) (xA X) own ix y host bytes maxL retc wsc rmc 0 0 na) (hi : Cond.instanceMethod y ∈ wAll) (hse : Cond.selects Cn y y ∈ wAll) (hk : k < n) (hs : sh k = .inr (.inl (ci, fs))) (hc : vwCl[ci]? = some (Cn, T, N)) (hn : As.length = na) (hst : st = As.reverse ++ .ref a0 :: rest)
    (hW : (rest.map fun v => v.category).sum ≤ 8) (hd : decode cc pc = .ok (.invokevirtual ix, 3)) (hcs : kc ≤ rm.cells ∧ ks ≤ rm.slots) (kk : ∀ M', post M' → em_G X D b0 cT ad nL sh n kc ks M' (pc + 3) lv rest) : em_G X D b0 cT ad nL sh n kc ks M pc lv st := by
  subst ha
  subst hst
  intro ls H locs h1 h2 h3
  refine va_callv (va_runVN ⟨C.x, C.b, C.ml, C.ow, C.ts⟩ hM ⟨cw, C.ts _ hi, C.ts _ hse⟩ ⟨em_blind, va_recv C.K h2.1 hc (em_at_obj hk hs), fun U hU hW => ⟨rfl, em_give C h2 h3 hU hW⟩⟩ rfl hn h1.1 rfl (lv_room hW) hd (by rw [C.R]; exact hcs)) h3 (fun q _ h => h) (fun q h => h) (fun u t H1 locs1 ht hvm hw hB hz1 hk1 hS => ?_)
  have hP1 := hB.1
  rw [ht] at hP1
  exact kk u hw ls H1 locs1 h1 hP1 hS
theorem g_callSi (C : em_Cx X D b0 cT own cc ret nL rm) {post : Int32 → em_M → Prop} (As : List Value) (rest : List Value)
    (hM : Met (xL X) y wsc rmc (va_Pc As (em_U D b0 cT ad sh n M)) (va_Qi post (em_U D b0 cT ad sh n) (em_A b0)) 0 0 (em_A b0))
    (cw : CallB (xR X) (xS X) (xA X) own ix y bytes maxL retc wsc rmc 0 0 na ∧ (Cond.static y).before (xA X) (xS X) = true) (hn : As.length = na) (hst : st = As.reverse ++ rest)
    (hW : (rest.map fun v => v.category).sum ≤ 8) (hd : decode cc pc = .ok (.invokestatic ix, 3)) (hcs : kc ≤ rm.cells ∧ ks ≤ rm.slots) (kk : ∀ r M', post r M' → em_G X D b0 cT ad nL sh n kc ks M' (pc + 3) lv (.int r :: rest)) : em_G X D b0 cT ad nL sh n kc ks M pc lv st := by
  subst hst
  intro ls H locs h1 h2 h3
  refine va_calli (va_runS ⟨C.x, C.b, C.ml, C.ow, C.ts⟩ hM cw ⟨em_blind, fun U hU hW => ⟨rfl, em_give C h2 h3 hU hW⟩⟩ rfl hn h1.1 rfl (lv_room hW) hd (by rw [C.R]; exact hcs)) h3 (fun q _ h => h) (fun q h => h) (fun r u t H1 locs1 ht hvm hw hB hz1 hk1 hS => ?_)
  have hP1 := hB.1
  rw [ht] at hP1
  exact kk r u hw ls H1 locs1 h1 hP1 hS
theorem g_callSv (C : em_Cx X D b0 cT own cc ret nL rm) {post : em_M → Prop} (As : List Value) (rest : List Value)
    (hM : Met (xL X) y wsc rmc (va_Pc As (em_U D b0 cT ad sh n M)) (va_Qv post (em_U D b0 cT ad sh n) (em_A b0)) 0 0 (em_A b0))
    (cw : CallB (xR X) (xS X) (xA X) own ix y bytes maxL retc wsc rmc 0 0 na ∧ (Cond.static y).before (xA X) (xS X) = true) (hn : As.length = na) (hst : st = As.reverse ++ rest)
    (hW : (rest.map fun v => v.category).sum ≤ 8) (hd : decode cc pc = .ok (.invokestatic ix, 3)) (hcs : kc ≤ rm.cells ∧ ks ≤ rm.slots) (kk : ∀ M', post M' → em_G X D b0 cT ad nL sh n kc ks M' (pc + 3) lv rest) : em_G X D b0 cT ad nL sh n kc ks M pc lv st := by
  subst hst
  intro ls H locs h1 h2 h3
  refine va_callv (va_runS ⟨C.x, C.b, C.ml, C.ow, C.ts⟩ hM cw ⟨em_blind, fun U hU hW => ⟨rfl, em_give C h2 h3 hU hW⟩⟩ rfl hn h1.1 rfl (lv_room hW) hd (by rw [C.R]; exact hcs)) h3 (fun q _ h => h) (fun q h => h) (fun u t H1 locs1 ht hvm hw hB hz1 hk1 hS => ?_)
  have hP1 := hB.1
  rw [ht] at hP1
  exact kk u hw ls H1 locs1 h1 hP1 hS
end EmCalls
theorem g_iret (C : em_Cx X D b0 cT own cc ret nL rm) {post : Int32 → em_M → Prop} {x : Int32} (hQ : xQ X = MQ (xB X) (va_Qi post (em_U D b0 cT ad sh n) (em_A b0)) (xA X) (xS X) kc ks (em_A b0)) (hret : ret = some .int) (hd : decode cc pc = .ok (.ireturn, 1)) (hp : post x M) : em_G X D b0 cT ad nL sh n kc ks M pc lv [.int x] := by
  intro ls H locs h1 h2 h3
  rw [hQ]
  exact W.iret C.x C.b (C.r.trans hret) (fun t ht hW => ⟨⟨x, M, rfl, hp, em_give C h2 h3 ht hW⟩, h3.F ht⟩) h3.2.2 hd C.lk
theorem g_zret (C : em_Cx X D b0 cT own cc ret nL rm) {post : Int32 → em_M → Prop} {x : Int32} {ty : FieldType} (hQ : xQ X = MQ (xB X) (va_Qi post (em_U D b0 cT ad sh n) (em_A b0)) (xA X) (xS X) kc ks (em_A b0)) (hret : ret = some ty) (hn : narrow ty (.int x) = .int x) (hd : decode cc pc = .ok (.ireturn, 1)) (hp : post x M) : em_G X D b0 cT ad nL sh n kc ks M pc lv [.int x] := by
  intro ls H locs h1 h2 h3
  rw [hQ]
  exact W.zret C.x C.b (C.r.trans hret) hn (fun t ht hW => ⟨⟨x, M, rfl, hp, em_give C h2 h3 ht hW⟩, h3.F ht⟩) h3.2.2 hd C.lk
theorem g_vret (C : em_Cx X D b0 cT own cc ret nL rm) {post : em_M → Prop} (hQ : xQ X = MQ (xB X) (va_Qv post (em_U D b0 cT ad sh n) (em_A b0)) (xA X) (xS X) kc ks (em_A b0)) (hret : ret = none) (hd : decode cc pc = .ok (.return_, 1)) (hp : post M) : em_G X D b0 cT ad nL sh n kc ks M pc lv [] := by
  intro ls H locs h1 h2 h3
  rw [hQ]
  exact W.vret C.x C.b (C.r.trans hret) (fun t ht hW => ⟨⟨M, rfl, hp, em_give C h2 h3 ht hW⟩, h3.F ht⟩) h3.2.2 hd C.lk
/-- a contract out of its walk -/
theorem em_met {l : Launch} {y : MethodName} {Qc : Array Value → State → Outcome → State → Prop} {mc ms maxL : Nat} {vs : List Value} (hy : plainName y.cls = true) (hyc : y.cls = own) (hlen : (lg_sl vs).length ≤ maxL)
    (body : ∀ X : em_X, em_Cx X D b0 cT own cc ret maxL rm → xL X = l → (xM X).name = y.name → xQ X = MQ (xB X) Qc (xA X) (xS X) mc ms (em_A b0) → em_G X D b0 cT ad maxL sh n 0 0 M 0 (lv_args 0 vs) []) : Met l y (Cond.code y cc maxL ret :: wAll) rm (va_Pc vs (em_U D b0 cT ad sh n M)) Qc mc ms (em_A b0) := by
  refine Met.ofW (cc := cc) (maxL := maxL) (ret := ret) hy rfl ?_
  intro p e s m args below meth c s₁ B hml hv
  obtain ⟨rfl, hP, hK, hN, hsz⟩ := hv
  have hts : ∀ w ∈ wAll, w.before vs.toArray s = true := fun w h => atoms_spec (ws := Cond.code y cc maxL ret :: wAll) B.pre w (List.mem_cons_of_mem _ h)
  have hown : s.vm.findClass own = some m.cls := by rw [← hyc]; exact findClass_of_methodNamed B.named
  have hl := lv_entry vs (n := maxL) hlen
  rw [lg_entry_eq]
  exact body (p, l, e, (headSpec (Cond.code y cc maxL ret :: wAll) rm).room, s, m, vs.toArray, below, meth, c, MQ below Qc vs.toArray s mc ms (em_A b0)) ⟨B.exec, B.bytes, hml, hown, hts, hK, B.returns, B.notSynchronized, hsz, hN, rfl⟩ rfl (name_of_methodNamed B.named B.method).1 rfl _ s.heap [] hl hP va_S.rf
end EmRows
theorem em_bn {x : Int32} (h : x = 0 ∨ x = 1) : narrow .boolean (.int x) = .int x := by
  rcases h with rfl | rfl <;> rfl
theorem em_bf {x : Int32} (h : x = 0 ∨ x = 1) : fits .boolean (.int x) = true := by
  rcases h with rfl | rfl <;> rfl
theorem em_ix (x : Int32) {lo hi : Nat} (h : lo ≤ hi ∧ hi < 2 ^ 31) : x < nI lo ∨ nI hi ≤ x ∨ ∃ j : Nat, lo ≤ j ∧ j < hi ∧ x = nI j := by
  have hlo : (nI lo).toInt = (lo : Int) := nI_toInt (by omega)
  rcases pk_ix x h.2 with h2 | h2 | ⟨j, hj, e⟩
  · refine Or.inl ?_
    rw [Int32.lt_iff_toInt_lt, hlo]
    rw [Int32.lt_iff_toInt_lt, Int32.toInt_zero] at h2
    omega
  · exact Or.inr (Or.inl h2)
  · by_cases hl : lo ≤ j
    · exact Or.inr (Or.inr ⟨j, hl, hj, e⟩)
    · exact Or.inl (by rw [e]; exact nI_lt (by omega) (by omega))
theorem em_sw0 {x : Int32} {lo : Nat} {z : Int} (h : (lo : Int) = z ∧ lo < 2 ^ 31) (hx : x < nI lo) : x.toInt < z := by
  rw [Int32.lt_iff_toInt_lt, nI_toInt h.2] at hx
  omega
theorem em_sw1 {x : Int32} {n : Nat} {z : Int} (h : z + 1 = (n : Int) ∧ n < 2 ^ 31) (hx : nI n ≤ x) : z < x.toInt := by
  rw [Int32.le_iff_toInt_le, nI_toInt h.2] at hx
  omega
/-! ROWS THAT MAKE CELLS: constructors alone need them -/
section EmAlloc
variable {X : em_X} {D : va_G} {b0 : Nat} {cT : Nat → ClassId} {ad : Nat → Nat} {nL : Nat} {sh : Nat → em_Sh} {n kc ks : Nat} {M : em_M} {pc : Nat} {lv lv' : List (Nat × Value)} {st rest : List Value} {own : String} {cc : ByteArray} {ret : Option FieldType} {rm : Room}
theorem em_w_push {q : Nat} {s' : em_Sh} : em_w cT ad sh n M ++ [(q, em_ct cT s' (M n))] = em_w cT (va_up ad n q) (va_up sh n s') (n + 1) M := by
  unfold em_w
  rw [List.range_succ, List.map_append]
  congr 1
  · apply List.map_congr_left
    intro k hk
    have hk := List.mem_range.mp hk
    rw [va_up_ne _ _ (by omega), va_up_ne _ _ (by omega)]
  · simp [va_up_self]
theorem em_P_congr {ad' : Nat → Nat} {sh' : Nat → em_Sh} {M' : em_M} {H : Heap} (h : ∀ k, k < n → ad k = ad' k ∧ sh k = sh' k ∧ M k = M' k) (hP : em_P D b0 cT ad sh n M H) : em_P D b0 cT ad' sh' n M' H := by
  have e : em_w cT ad sh n M = em_w cT ad' sh' n M' := by
    unfold em_w
    apply List.map_congr_left
    intro k hk
    obtain ⟨a, b, c⟩ := h k (List.mem_range.mp hk)
    rw [a, b, c]
  unfold em_P at hP ⊢
  rw [← e]
  exact hP
theorem g_new (C : em_Cx X D b0 cT own cc ret nL rm) {ix ci N : Nat} {Cn : String} {T : u_T} (fs : List (Option (Option Nat))) (ty : Nat → FieldType) (hty : ∀ k, k < N → parseFieldDescriptor (T k).2.2.1 = some (ty k)) (hd : decode cc pc = .ok (.new ix, 3)) (hin : ∀ w ∈ u_ws Cn T N, w ∈ wAll) (hcl : Cond.classLink own ix Cn ∈ wAll) (hinst : Cond.instantiable Cn N ∈ wAll) (hini : Cond.initialized Cn ∈ wAll) (hc : vwCl[ci]? = some (Cn, T, N)) (hM0 : M n = fun _ => 0)
    (hfs : ∀ j, j < N → defaultValue (ty j) = vp_V (em_fs (fun _ => 0) 0 fs) j) (hcells : kc + 1 ≤ rm.cells) (hslots : ks + N ≤ rm.slots) (kk : ∀ q : Nat, em_G X D b0 cT (va_up ad n q) nL (va_up sh n (.inr (.inl (ci, fs)))) (n + 1) (kc + 1) (ks + N) M (pc + 3) lv (.ref q :: rest)) : em_G X D b0 cT ad nL sh n kc ks M pc lv rest := by
  intro ls H locs h1 h2 h3
  refine va_new C.x C.b C.ts hin ty hty C.ow (C.ts _ hcl) (C.ts _ hinst) (C.ts _ hini) C.K h2.1 h2.2 h3 (fun q h => Nat.le_trans C.sz h) hc hfs (by rw [C.R]; exact hcells) (by rw [C.R]; exact hslots) hd (fun q H1 a1 a2 a3 => ?_)
  have e : em_w cT ad sh n M ++ [(q, .inr (ci, em_fs (fun _ => 0) 0 fs))] = em_w cT (va_up ad n q) (va_up sh n (.inr (.inl (ci, fs)))) (n + 1) M := by
    rw [← em_w_push, hM0]
    rfl
  rw [e] at a1 a2
  exact kk q ls H1 locs h1 ⟨a1, a2⟩ a3
theorem g_newa (C : em_Cx X D b0 cT own cc ret nL rm) {z : Int32} (t len : Nat) (hd : decode cc pc = .ok (.newarray .int, 2)) (harr : Cond.arrayClass .int ∈ wAll) (ht : (em_tys cT)[t]? = some (cT t, .int)) (hM0 : M n = fun _ => 0) (hz : ¬ z < 0) (hlen : z.toNatClampNeg = len) (hb : len * componentBytes .int ≤ 536870912) (hcells : kc + 1 ≤ rm.cells) (hslots : ks + len ≤ rm.slots)
    (kk : ∀ q : Nat, em_G X D b0 cT (va_up ad n q) nL (va_up sh n (.inl (t, len))) (n + 1) (kc + 1) (ks + len) M (pc + 2) lv (.ref q :: rest)) : em_G X D b0 cT ad nL sh n kc ks M pc lv (.int z :: rest) := by
  intro ls H locs h1 h2 h3
  refine va_newa (atype := .int) (ty := .int) (a0 := (len, .inl (fun _ => 0))) C.x C.b (C.ts _ harr) rfl C.K h2.1 h2.2 h3 (fun q h => Nat.le_trans C.sz h) (fun cA => rfl) hz hlen hb (by rw [C.R]; exact hcells) (by rw [C.R]; exact hslots) hd (fun q cA H1 a0 a1 a2 a3 => ?_)
  have e1 : (xS X).vm.findClass ("[" ++ FieldType.int.toString) = some cA := (a0.2 (em_tys cT).length (cA, .int) (by simp)).2
  have e2 : (xS X).vm.findClass ("[" ++ FieldType.int.toString) = some (cT t) := (C.K.2 t (cT t, .int) ht).2
  have e3 : cA = cT t := Option.some.inj (e1.symm.trans e2)
  subst e3
  have e : em_w cT ad sh n M ++ [(q, .inl (cT t, len, .inl (fun _ => 0)))] = em_w cT (va_up ad n q) (va_up sh n (.inl (t, len))) (n + 1) M := by
    rw [← em_w_push, hM0]
    rfl
  rw [e] at a1 a2
  exact kk q ls H1 locs h1 ⟨a1, a2⟩ a3
theorem g_anewa (C : em_Cx X D b0 cT own cc ret nL rm) {ix : Nat} {z : Int32} (t len : Nat) (hd : decode cc pc = .ok (.anewarray ix, 3)) (hcl : Cond.classLink own ix R_SL ∈ wAll) (ht : (em_tys cT)[t]? = some (cT t, .object R_SL)) (hz : ¬ z < 0) (hlen : z.toNatClampNeg = len) (hb : len * 4 ≤ 536870912) (hcells : kc + 1 ≤ rm.cells) (hslots : ks + len ≤ rm.slots)
    (kk : ∀ q : Nat, em_G X D b0 cT (va_up ad n q) nL (va_up sh n (.inr (.inr (t, len, fun _ => none)))) (n + 1) (kc + 1) (ks + len) M (pc + 3) lv (.ref q :: rest)) : em_G X D b0 cT ad nL sh n kc ks M pc lv (.int z :: rest) := by
  intro ls H locs h1 h2 h3
  refine va_newq C.x C.b C.ow (C.ts _ hcl) C.N.2 C.K h2.1 h2.2 h3 (fun q h => Nat.le_trans C.sz h) hz hlen hb (by rw [C.R]; exact hcells) (by rw [C.R]; exact hslots) hd (fun q cA H1 a0 a1 a2 a3 => ?_)
  obtain ⟨_, _, _, _, _, e1⟩ := (a0.2 (em_tys cT).length (cA, .object R_SL) (by simp)).2
  obtain ⟨_, _, _, _, _, e2⟩ := (C.K.2 t (cT t, .object R_SL) ht).2
  have e3 : cA = cT t := Option.some.inj (e1.symm.trans e2)
  subst e3
  have e : em_w cT ad sh n M ++ [(q, .inl (cT t, len, .inr (.inr (.inr (.inr (fun _ => none))))))] = em_w cT (va_up ad n q) (va_up sh n (.inr (.inr (t, len, fun _ => none)))) (n + 1) M := by
    rw [← em_w_push]
    rfl
  rw [e] at a1 a2
  exact kk q ls H1 locs h1 ⟨a1, a2⟩ a3
theorem g_aast (C : em_Cx X D b0 cT own cc ret nL rm) {t len a0 v ci : Nat} {f : Nat → Option Nat} {r : vw_C} {fs : List (Option (Option Nat))} {i : Int32} (k kv : Nat) (ha : ad k = a0) (hav : ad kv = v) (hd : decode cc pc = .ok (.aastore, 1)) (hk : k < n) (hs : sh k = .inr (.inr (t, len, f))) (hkv : kv < n) (hsv : sh kv = .inr (.inl (ci, fs))) (hc : vwCl[ci]? = some r) (ht : (em_tys cT)[t]? = some (cT t, .object r.1)) (hi : vp_in i len)
    (kk : em_G X D b0 cT ad nL (va_up sh k (.inr (.inr (t, len, va_up f i.toNatClampNeg (some v))))) n kc ks M (pc + 1) lv rest) : em_G X D b0 cT ad nL sh n kc ks M pc lv (.ref v :: .int i :: .ref a0 :: rest) := by
  subst ha
  subst hav
  intro ls H locs h1 h2 h3
  have e : (em_w cT ad sh n M).set k (ad k, .inl (cT t, len, .inr (.inr (.inr (.inr (va_up f i.toNatClampNeg (some (ad kv)))))))) = em_w cT ad (va_up sh k (.inr (.inr (t, len, va_up f i.toNatClampNeg (some (ad kv)))))) n M := by
    have e2 : (Sum.inl (cT t, len, .inr (.inr (.inr (.inr (va_up f i.toNatClampNeg (some (ad kv))))))) : va_E) = em_ct cT (.inr (.inr (t, len, va_up f i.toNatClampNeg (some (ad kv))))) (M k) := rfl
    rw [e2, em_w_set, em_up_same]
  refine va_astq C.x C.b C.K h2.1 h2.2 h3 k t kv ci (em_at_ref hk hs) ht (em_at_obj hkv hsv) hc hi hd (fun H1 locs1 a1 a2 a3 => ?_)
  rw [e] at a1 a2
  exact kk ls H1 locs1 h1 ⟨a1, a2⟩ a3
theorem g_objInit (C : em_Cx X D b0 cT own cc ret nL rm) {ix a : Nat} (hd : decode cc pc = .ok (.invokespecial ix, 3)) (h1 : Cond.methodLink own ix Lib.objectInit ∈ wAll) (h2 : Cond.instanceMethod Lib.objectInit ∈ wAll) (h3 : Cond.code Lib.objectInit ⟨#[0xb1]⟩ 1 none ∈ wAll) (hfr : 1 ≤ rm.frames) (hlo : (rest.map fun v => v.category).sum + 12 ≤ rm.locals) (kk : em_G X D b0 cT ad nL sh n kc ks M (pc + 3) lv rest) : em_G X D b0 cT ad nL sh n kc ks M pc lv (.ref a :: rest) := by
  intro ls H locs i1 i2 i3
  refine W.objInit C.x C.b C.ow (C.ts _ h1) (C.ts _ h2) (C.ts _ h3) rfl (i1.1.trans C.ml.symm) rfl hd (by rw [C.R]; exact hfr) (by rw [C.R]; simpa [JFrame.monitorRoom] using hlo) ?_
  exact kk ls H locs i1 i2 i3
section EmInit
variable {y : MethodName} {bytes : ByteArray} {maxL mc ms na ix a0 : Nat} {wsc : List Cond} {rmc : Room} {host : String}
theorem g_callIN (C : em_Cx X D b0 cT own cc ret nL rm) {S : Type} {post : S → Prop} {adf : S → Nat → Nat} {shf : S → Nat → em_Sh} {n' : Nat} {Mf : S → em_M} (As : List Value) (rest : List Value)
    (hM : Met (xL X) y wsc rmc (va_Pc (.ref a0 :: As) (em_U D b0 cT ad sh n M)) (va_Qv post (fun u t => em_U D b0 cT (adf u) (shf u) n' (Mf u) t) (em_A b0)) mc ms (em_A b0))
    (cw : va_CN (xR X) (xS X) (xA X) own ix y host bytes maxL none wsc rmc mc ms na) (hy : y.name = "<init>") (hi : Cond.instanceMethod y ∈ wAll) (hn : As.length = na) (hst : st = As.reverse ++ .ref a0 :: rest)
    (hW : (rest.map fun v => v.category).sum ≤ 8) (hd : decode cc pc = .ok (.invokespecial ix, 3)) (hcs : kc + mc ≤ rm.cells ∧ ks + ms ≤ rm.slots) (kk : ∀ u, post u → em_G X D b0 cT (adf u) nL (shf u) n' (kc + mc) (ks + ms) (Mf u) (pc + 3) lv rest) : em_G X D b0 cT ad nL sh n kc ks M pc lv st := by
  subst hst
  intro ls H locs h1 h2 h3
  refine va_callv (va_runIN ⟨C.x, C.b, C.ml, C.ow, C.ts⟩ hM ⟨cw, hy, C.ts _ hi⟩ ⟨em_blind, fun U hU hW => ⟨rfl, em_give C h2 h3 hU hW⟩⟩ rfl hn h1.1 rfl (lv_room hW) hd (by rw [C.R]; exact hcs)) h3 (fun q _ h => h) (fun q h => h) (fun u t H1 locs1 ht hvm hw hB hz1 hk1 hS => ?_)
  have hP1 := hB.1
  rw [ht] at hP1
  exact kk u hw ls H1 locs1 h1 hP1 hS
theorem g_callI (C : em_Cx X D b0 cT own cc ret nL rm) {S : Type} {post : S → Prop} {adf : S → Nat → Nat} {shf : S → Nat → em_Sh} {n' : Nat} {Mf : S → em_M} (As : List Value) (rest : List Value)
    (hM : Met (xL X) y wsc rmc (va_Pc (.ref a0 :: As) (em_U D b0 cT ad sh n M)) (va_Qv post (fun u t => em_U D b0 cT (adf u) (shf u) n' (Mf u) t) (em_A b0)) mc ms (em_A b0))
    (cw : CallB (xR X) (xS X) (xA X) own ix y bytes maxL none wsc rmc mc ms na ∧ y.name = "<init>" ∧ (Cond.instanceMethod y).before (xA X) (xS X) = true) (hn : As.length = na) (hst : st = As.reverse ++ .ref a0 :: rest)
    (hW : (rest.map fun v => v.category).sum ≤ 8) (hd : decode cc pc = .ok (.invokespecial ix, 3)) (hcs : kc + mc ≤ rm.cells ∧ ks + ms ≤ rm.slots) (kk : ∀ u, post u → em_G X D b0 cT (adf u) nL (shf u) n' (kc + mc) (ks + ms) (Mf u) (pc + 3) lv rest) : em_G X D b0 cT ad nL sh n kc ks M pc lv st := by
  subst hst
  intro ls H locs h1 h2 h3
  refine va_callv (va_runI ⟨C.x, C.b, C.ml, C.ow, C.ts⟩ hM cw ⟨em_blind, fun U hU hW => ⟨rfl, em_give C h2 h3 hU hW⟩⟩ rfl hn h1.1 rfl (lv_room hW) hd (by rw [C.R]; exact hcs)) h3 (fun q _ h => h) (fun q h => h) (fun u t H1 locs1 ht hvm hw hB hz1 hk1 hS => ?_)
  have hP1 := hB.1
  rw [ht] at hP1
  exact kk u hw ls H1 locs1 h1 hP1 hS
end EmInit
/-- the end of a constructor: its world in the form that the contract names -/
theorem g_vretC (C : em_Cx X D b0 cT own cc ret nL rm) {S : Type} {post : S → Prop} {adf : S → Nat → Nat} {shf : S → Nat → em_Sh} {Mf : S → em_M} (u : S) (hQ : xQ X = MQ (xB X) (va_Qv post (fun u t => em_U D b0 cT (adf u) (shf u) n (Mf u) t) (em_A b0)) (xA X) (xS X) kc ks (em_A b0)) (hret : ret = none) (hd : decode cc pc = .ok (.return_, 1)) (hp : post u) (hcv : ∀ k, k < n → ad k = adf u k ∧ sh k = shf u k ∧ M k = Mf u k) : em_G X D b0 cT ad nL sh n kc ks M pc lv [] := by
  intro ls H locs h1 h2 h3
  rw [hQ]
  exact W.vret C.x C.b (C.r.trans hret) (fun t ht hW => ⟨⟨u, rfl, hp, em_give C (em_P_congr hcv h2) h3 ht hW⟩, h3.F ht⟩) h3.2.2 hd C.lk
end EmAlloc
