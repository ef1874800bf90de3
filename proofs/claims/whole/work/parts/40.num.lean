/-! NUMBERS AND LOOPS, pure -/
theorem nz_eq {a : Nat} (h : a < 2 ^ 31) : nI a = 0 ↔ a = 0 := nI_eq (b := 0) h (by decide)
theorem nz_eq1 {a : Nat} (h : a < 2 ^ 31) : nI a = 1 ↔ a = 1 := nI_eq (b := 1) h (by decide)
theorem nz_le {a : Nat} (h : a < 2 ^ 31) : nI a ≤ 0 ↔ a = 0 := by
  rw [show (nI a ≤ 0 ↔ nI a ≤ nI 0) from Iff.rfl, nI_leI h (by decide)]
  omega
theorem nz_lt {a : Nat} (h : a < 2 ^ 31) : nI a < 0 ↔ False := by
  rw [show (nI a < 0 ↔ nI a < nI 0) from Iff.rfl, nI_ltI h (by decide)]
  simp
theorem nz_pos {a : Nat} (h : a < 2 ^ 31) : 0 < nI a ↔ 0 < a := by
  rw [show (0 < nI a ↔ nI 0 < nI a) from Iff.rfl, nI_ltI (by decide) h]
theorem nz_ge {a : Nat} (h : a < 2 ^ 31) : 0 ≤ nI a ↔ True := by
  rw [show (0 ≤ nI a ↔ nI 0 ≤ nI a) from Iff.rfl, nI_leI (by decide) h]
  simp
theorem n_in {a n : Nat} (h : a < 2 ^ 31) : vp_in (nI a) n ↔ a < n := by
  unfold vp_in
  rw [nz_lt h, nI_clamp h]
  simp
/-- a loop with one number carried, a counter that rises to N -/
theorem lpA {N s0 : Nat} {a0 : Int32} {E : Int32 → Prop} {B : (Int32 → Int32 → Prop) → (Int32 → Int32 → Nat) → Int32 → Int32 → Prop} (hN : N < 2 ^ 31) (hs : s0 ≤ N) (P : Nat → Int32 → Prop) (h0 : P s0 a0) (hx : ∀ a, P N a → E a)
    (hb : ∀ I mu k a, k < N → s0 ≤ k → P k a → (∀ a', P (k + 1) a' → I a' (nI k + nI 1) ∧ mu a' (nI k + nI 1) < mu a (nI k)) → B I mu a (nI k)) :
    ∃ (I : Int32 → Int32 → Prop) (mu : Int32 → Int32 → Nat), I a0 (nI s0) ∧ ∀ x2 x3, I x2 x3 → (nI N ≤ x3 → E x2) ∧ (¬ nI N ≤ x3 → B I mu x2 x3) := by
  refine ⟨fun a x => ∃ k, s0 ≤ k ∧ k ≤ N ∧ x = nI k ∧ P k a, fun _ x => N - x.toNatClampNeg, ⟨s0, Nat.le_refl _, hs, rfl, h0⟩, ?_⟩
  rintro a _ ⟨k, h1, h2, rfl, hp⟩
  refine ⟨fun h => ?_, fun h => ?_⟩
  · rw [nI_leI hN (by omega)] at h
    have e : k = N := by omega
    subst e
    exact hx a hp
  · rw [nI_leI hN (by omega)] at h
    refine hb _ _ k a (by omega) h1 hp (fun a' ha => ?_)
    rw [nI_add]
    refine ⟨⟨k + 1, by omega, by omega, rfl, ha⟩, ?_⟩
    show N - (nI (k + 1)).toNatClampNeg < N - (nI k).toNatClampNeg
    rw [nI_clamp (by omega), nI_clamp (by omega)]
    omega
/-- two numbers carried -/
theorem lpB {N s0 : Nat} {a0 b0 : Int32} {E : Int32 → Int32 → Prop} {B : (Int32 → Int32 → Int32 → Prop) → (Int32 → Int32 → Int32 → Nat) → Int32 → Int32 → Int32 → Prop} (hN : N < 2 ^ 31) (hs : s0 ≤ N) (P : Nat → Int32 → Int32 → Prop) (h0 : P s0 a0 b0) (hx : ∀ a b, P N a b → E a b)
    (hb : ∀ I mu k a b, k < N → s0 ≤ k → P k a b → (∀ a' b', P (k + 1) a' b' → I a' b' (nI k + nI 1) ∧ mu a' b' (nI k + nI 1) < mu a b (nI k)) → B I mu a b (nI k)) :
    ∃ (I : Int32 → Int32 → Int32 → Prop) (mu : Int32 → Int32 → Int32 → Nat), I a0 b0 (nI s0) ∧ ∀ x2 x3 x4, I x2 x3 x4 → (nI N ≤ x4 → E x2 x3) ∧ (¬ nI N ≤ x4 → B I mu x2 x3 x4) := by
  refine ⟨fun a b x => ∃ k, s0 ≤ k ∧ k ≤ N ∧ x = nI k ∧ P k a b, fun _ _ x => N - x.toNatClampNeg, ⟨s0, Nat.le_refl _, hs, rfl, h0⟩, ?_⟩
  rintro a b _ ⟨k, h1, h2, rfl, hp⟩
  refine ⟨fun h => ?_, fun h => ?_⟩
  · rw [nI_leI hN (by omega)] at h
    have e : k = N := by omega
    subst e
    exact hx a b hp
  · rw [nI_leI hN (by omega)] at h
    refine hb _ _ k a b (by omega) h1 hp (fun a' b' ha => ?_)
    rw [nI_add]
    refine ⟨⟨k + 1, by omega, by omega, rfl, ha⟩, ?_⟩
    show N - (nI (k + 1)).toNatClampNeg < N - (nI k).toNatClampNeg
    rw [nI_clamp (by omega), nI_clamp (by omega)]
    omega
/-- the memory carried -/
theorem lpM {N s0 : Nat} {M0 : em_M} {E : em_M → Prop} {B : (Int32 → em_M → Prop) → (Int32 → em_M → Nat) → Int32 → em_M → Prop} (hN : N < 2 ^ 31) (hs : s0 ≤ N) (P : Nat → em_M → Prop) (h0 : P s0 M0) (hx : ∀ a, P N a → E a)
    (hb : ∀ I mu k a, k < N → s0 ≤ k → P k a → (∀ a', P (k + 1) a' → I (nI k + nI 1) a' ∧ mu (nI k + nI 1) a' < mu (nI k) a) → B I mu (nI k) a) :
    ∃ (I : Int32 → em_M → Prop) (mu : Int32 → em_M → Nat), I (nI s0) M0 ∧ ∀ x3 M, I x3 M → (nI N ≤ x3 → E M) ∧ (¬ nI N ≤ x3 → B I mu x3 M) := by
  refine ⟨fun x a => ∃ k, s0 ≤ k ∧ k ≤ N ∧ x = nI k ∧ P k a, fun x _ => N - x.toNatClampNeg, ⟨s0, Nat.le_refl _, hs, rfl, h0⟩, ?_⟩
  rintro _ a ⟨k, h1, h2, rfl, hp⟩
  refine ⟨fun h => ?_, fun h => ?_⟩
  · rw [nI_leI hN (by omega)] at h
    have e : k = N := by omega
    subst e
    exact hx a hp
  · rw [nI_leI hN (by omega)] at h
    refine hb _ _ k a (by omega) h1 hp (fun a' ha => ?_)
    rw [nI_add]
    refine ⟨⟨k + 1, by omega, by omega, rfl, ha⟩, ?_⟩
    show N - (nI (k + 1)).toNatClampNeg < N - (nI k).toNatClampNeg
    rw [nI_clamp (by omega), nI_clamp (by omega)]
    omega
/-! WHAT IS ASKED, in numbers: f is a list's scores by object (0: no entry) -/
/-- how many entries stand before o -/
def cN (f : Nat → Nat) : Nat → Nat
  | 0 => 0
  | o + 1 => cN f o + (if 0 < f o then 1 else 0)
theorem cN_le (f : Nat → Nat) : ∀ o, cN f o ≤ o
  | 0 => Nat.le_refl 0
  | o + 1 => by
    have := cN_le f o
    simp only [cN]
    split <;> omega
theorem cN_mono {f : Nat → Nat} {a : Nat} : ∀ {b : Nat}, a ≤ b → cN f a ≤ cN f b
  | 0, h => by rw [show a = 0 by omega]; exact Nat.le_refl _
  | b + 1, h => by
    by_cases e : a = b + 1
    · rw [e]; exact Nat.le_refl _
    · have := cN_mono (f := f) (show a ≤ b by omega)
      simp only [cN]
      omega
theorem cN_lt {f : Nat → Nat} {a b : Nat} (h : a < b) (hf : 0 < f a) : cN f a < cN f b := by
  have h1 : cN f (a + 1) ≤ cN f b := cN_mono (by omega)
  simp only [cN, hf, if_true] at h1
  omega
/-- two entries with one rank are one -/
theorem cN_inj {f : Nat → Nat} {a b : Nat} (ha : 0 < f a) (hb : 0 < f b) (h : cN f a = cN f b) : a = b := by
  rcases Nat.lt_trichotomy a b with q | q | q
  · have := cN_lt q ha; omega
  · exact q
  · have := cN_lt q hb; omega
/-- the entry of rank j -/
theorem cN_ex {f : Nat → Nat} {j : Nat} : ∀ {n : Nat}, j < cN f n → ∃ o, o < n ∧ 0 < f o ∧ cN f o = j
  | 0, h => absurd h (by simp [cN])
  | n + 1, h => by
    by_cases e : j < cN f n
    · obtain ⟨o, h1, h2, h3⟩ := cN_ex e
      exact ⟨o, by omega, h2, h3⟩
    · simp only [cN] at h
      split at h
      · next q => exact ⟨n, by omega, q, by omega⟩
      · omega
/-- the greatest score of the entries before o whose rank is in n .. m - 1 -/
def tpN (f : Nat → Nat) (n m : Nat) : Nat → Nat
  | 0 => 0
  | o + 1 => if 0 < f o ∧ n ≤ cN f o ∧ cN f o < m ∧ tpN f n m o < f o then f o else tpN f n m o
/-- a sum, a count, some, all of the first n -/
def smN (g : Nat → Nat) : Nat → Nat
  | 0 => 0
  | n + 1 => smN g n + g n
def anyN (p : Nat → Bool) : Nat → Bool
  | 0 => false
  | n + 1 => anyN p n || p n
def allN (p : Nat → Bool) : Nat → Bool
  | 0 => true
  | n + 1 => allN p n && p n
theorem anyN_iff {p : Nat → Bool} : ∀ {n : Nat}, anyN p n = true ↔ ∃ i, i < n ∧ p i = true
  | 0 => by simp [anyN]
  | n + 1 => by
    simp only [anyN, Bool.or_eq_true, anyN_iff]
    constructor
    · rintro (⟨i, h1, h2⟩ | h)
      · exact ⟨i, by omega, h2⟩
      · exact ⟨n, by omega, h⟩
    · rintro ⟨i, h1, h2⟩
      by_cases e : i = n
      · exact Or.inr (e ▸ h2)
      · exact Or.inl ⟨i, by omega, h2⟩
theorem allN_iff {p : Nat → Bool} : ∀ {n : Nat}, allN p n = true ↔ ∀ i, i < n → p i = true
  | 0 => by simp [allN]
  | n + 1 => by
    simp only [allN, Bool.and_eq_true, allN_iff]
    constructor
    · rintro ⟨h1, h2⟩ i hi
      by_cases e : i = n
      · exact e ▸ h2
      · exact h1 i (by omega)
    · intro h
      exact ⟨fun i hi => h i (by omega), h n (by omega)⟩
/-- the truth as the machine has it -/
def bI (b : Bool) : Int32 := if b then nI 1 else nI 0
theorem bI_01 (b : Bool) : bI b = 0 ∨ bI b = 1 := by
  cases b
  · exact Or.inl rfl
  · exact Or.inr rfl
theorem bI_0 (b : Bool) : bI b = 0 ↔ b = false := by
  cases b
  · exact ⟨fun _ => rfl, fun _ => rfl⟩
  · exact ⟨fun h => absurd h (by decide), fun h => by cases h⟩
theorem bI_t : bI true = nI 1 := rfl
theorem bI_f : bI false = nI 0 := rfl
