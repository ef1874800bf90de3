/-! LINES: pure -/
def ffN (f : Nat → Nat) (o : Nat) : Nat → Nat
  | 0 => 512
  | n + 1 => if ffN f o n < 512 then ffN f o n else if o ≤ n ∧ 0 < f n then n else 512
def ff (f : Nat → Nat) (o : Nat) : Nat := ffN f o 512
theorem ffN_is {f : Nat → Nat} {o : Nat} : ∀ n, n ≤ 512 → (ffN f o n = 512 ∧ ∀ t, o ≤ t → t < n → f t = 0) ∨ (ffN f o n < n ∧ o ≤ ffN f o n ∧ 0 < f (ffN f o n) ∧ ∀ t, o ≤ t → t < ffN f o n → f t = 0)
  | 0, _ => Or.inl ⟨rfl, fun t _ h => absurd h (Nat.not_lt_zero t)⟩
  | n + 1, hn => by
    rcases ffN_is (f := f) (o := o) n (by omega) with ⟨a, b⟩ | ⟨a, b, c, d⟩
    · have e : ffN f o (n + 1) = if o ≤ n ∧ 0 < f n then n else 512 := by
        simp only [ffN]; rw [if_neg (by omega)]
      rw [e]
      by_cases q : o ≤ n ∧ 0 < f n
      · rw [if_pos q]
        exact Or.inr ⟨by omega, q.1, q.2, b⟩
      · rw [if_neg q]
        refine Or.inl ⟨rfl, fun t t1 t2 => ?_⟩
        by_cases r : t = n
        · subst r; omega
        · exact b t t1 (by omega)
    · have e : ffN f o (n + 1) = ffN f o n := by
        simp only [ffN]; rw [if_pos (by omega)]
      rw [e]
      exact Or.inr ⟨by omega, b, c, d⟩
theorem ff_is {f : Nat → Nat} {o : Nat} (ho : o ≤ 512) : isFF f o (ff f o) := by
  rcases ffN_is (f := f) (o := o) 512 (Nat.le_refl _) with ⟨a, b⟩ | ⟨a, b, c, d⟩
  · unfold ff
    rw [a]
    exact ⟨ho, b, Or.inl rfl⟩
  · exact ⟨b, d, Or.inr ⟨a, c⟩⟩
theorem ff_un {f : Nat → Nat} {o r : Nat} (ho : o ≤ 512) (h : isFF f o r) : r = ff f o := isFF_un h (ff_is ho)
theorem ff_le {f : Nat → Nat} {o : Nat} (ho : o ≤ 512) : ff f o ≤ 512 := by
  obtain ⟨_, _, h⟩ := ff_is (f := f) ho
  omega
theorem cN_gap {f : Nat → Nat} {a : Nat} : ∀ {b : Nat}, a ≤ b → (∀ t, a ≤ t → t < b → f t = 0) → cN f b = cN f a
  | 0, h, _ => by rw [show a = 0 by omega]
  | b + 1, h, g => by
    by_cases e : a = b + 1
    · rw [e]
    · have ih := cN_gap (f := f) (a := a) (b := b) (by omega) (fun t t1 t2 => g t t1 (by omega))
      have := g b (by omega) (by omega)
      simp only [cN]
      rw [if_neg (by omega), ih]; rfl
theorem cN_FF {f : Nat → Nat} {o r : Nat} (h : isFF f o r) : cN f r = cN f o := cN_gap h.1 h.2.1
theorem cN_ff {f : Nat → Nat} {o : Nat} (ho : o ≤ 512) : cN f (ff f o) = cN f o := cN_FF (ff_is ho)
theorem ff_512 {f : Nat → Nat} {o : Nat} (ho : o ≤ 512) : ff f o < 512 ↔ cN f o < cN f 512 := by
  have e := cN_ff (f := f) ho
  obtain ⟨h1, h2, h3⟩ := ff_is (f := f) ho
  constructor
  · intro h
    rw [← e]
    exact cN_lt h (by omega)
  · intro h
    rcases h3 with h3 | h3
    · rw [h3] at e; omega
    · exact h3.1
/-- S l is the object at which the line of l stands, 512 if it has none -/
def lS (sc : Nat → Nat → Nat) (so : Nat → Nat) (S : Nat → Nat) : Prop := ∀ l, l < 12 → S l ≤ 512 ∧ (asked so l = false → S l = 512) ∧ (S l < 512 → 0 < sc l (S l))
def cL (sc : Nat → Nat → Nat) (so : Nat → Nat) (S : Nat → Nat) (M : em_M) : Prop := ∀ l, l < 12 → asked so l = true → M 49 l = nI (cN (sc l) (S l))
def mL (so : Nat → Nat) (S : Nat → Nat) (M : em_M) : Prop := ∀ l, l < 12 → asked so l = true → M 61 l = nI (S l)
theorem lS_a {sc : Nat → Nat → Nat} {so S : Nat → Nat} (h : lS sc so S) {l : Nat} (hl : l < 12) (hs : S l < 512) : asked so l = true := by
  by_cases c : asked so l = true
  · exact c
  · have := (h l hl).2.1 (by simpa using c)
    omega
theorem q_standing {post : Int32 → Prop} {sc : Nat → Nat → Nat} {so we S : Nat → Nat} {M : em_M} {l : Nat} (h : cS sc M) (hq : cQ so we M) (hs : lS sc so S) (hc : cL sc so S M) (hl : l < 12) (hp : post (nI (S l))) : wp_LW_standing post (nI l) M := by
  unfold wp_LW_standing
  refine q_asksFor hq hl ?_
  obtain ⟨s1, s2, s3⟩ := hs l hl
  simp (disch := omega) only [bI_0, n_in, nI_clamp]
  refine ⟨fun c => ?_, fun c => ⟨hl, ?_⟩⟩
  · rw [s2 c] at hp; exact hp
  · have ca : asked so l = true := by simpa using c
    rw [hc l hl ca]
    have hcl := cN_le (sc l) (S l)
    refine q_objectAt h hl (by omega) (fun d => ?_) (fun o o1 o2 o3 => ?_)
    · by_cases e : S l < 512
      · have := cN_lt e (s3 e)
        omega
      · rw [show S l = 512 by omega] at hp; exact hp
    · by_cases e : S l < 512
      · rw [cN_inj o2 (s3 e) o3]; exact hp
      · have := cN_lt o1 o2
        rw [show S l = 512 by omega] at o3
        omega
theorem m_isLine {post : Int32 → Prop} {sc : Nat → Nat → Nat} {so we S : Nat → Nat} {M : em_M} {l : Nat} (hq : mQ so we M) (hs : lS sc so S) (hc : mL so S M) (hl : l < 12) (hp : post (bI (decide (S l < 512)))) : wp_MD_isLine post (nI l) M := by
  unfold wp_MD_isLine
  refine m_isAsked hq hl ?_
  obtain ⟨s1, s2, s3⟩ := hs l hl
  simp (disch := omega) only [bI_0, n_in, nI_clamp]
  refine ⟨fun c => ?_, fun c => ⟨hl, ?_⟩⟩
  · rw [s2 c] at hp; exact hp
  · have ca : asked so l = true := by simpa using c
    rw [hc l hl ca]
    simp (disch := omega) only [nI_leI]
    refine ⟨fun d => ?_, fun d => ?_⟩
    · rw [show decide (S l < 512) = false by simpa using d] at hp; exact hp
    · rw [show decide (S l < 512) = true by simpa using d] at hp; exact hp
def lsN (S : Nat → Nat) : Nat → Nat
  | 0 => 512
  | k + 1 => if S k < lsN S k then S k else lsN S k
theorem lsN_le (S : Nat → Nat) : ∀ k, lsN S k ≤ 512
  | 0 => Nat.le_refl _
  | k + 1 => by
    have := lsN_le S k
    simp only [lsN]
    split <;> omega
theorem lsN_512 {S : Nat → Nat} : ∀ {k : Nat}, lsN S k = 512 ↔ anyN (fun l => decide (S l < 512)) k = false
  | 0 => by simp [lsN, anyN]
  | k + 1 => by
    have ih := lsN_512 (S := S) (k := k)
    have := lsN_le S k
    simp only [lsN, anyN, Bool.or_eq_false_iff, decide_eq_false_iff_not]
    rw [← ih]
    split <;> omega
theorem lsN_lt {S : Nat → Nat} {q : Nat} (hq : q < 512) : ∀ {k : Nat}, lsN S k < q ↔ anyN (fun l => decide (S l < 512) && decide (S l < q)) k = true
  | 0 => by simp [lsN, anyN]; omega
  | k + 1 => by
    have ih := lsN_lt (S := S) hq (k := k)
    simp only [lsN, anyN, Bool.or_eq_true, Bool.and_eq_true, decide_eq_true_eq]
    rw [← ih]
    split <;> omega
theorem q_leastObject {post : Int32 → Prop} {sc : Nat → Nat → Nat} {so we S : Nat → Nat} {M : em_M} (h : cS sc M) (hq : cQ so we M) (hs : lS sc so S) (hc : cL sc so S M) (hp : post (nI (lsN S 12))) : wp_LW_leastObject post M := by
  unfold wp_LW_leastObject
  refine lpA (by omega) (by omega) (fun k a => a = nI (lsN S k)) rfl (fun a e => e ▸ hp) ?_
  rintro I mu k _ hk _ rfl st
  have := lsN_le S k
  have := (hs k hk).1
  refine q_standing h hq hs hc hk ?_
  simp (disch := omega) only [forall_eq, nI_ltI]
  refine st _ ?_
  simp only [lsN]
  split <;> rfl
def gnN (so S : Nat → Nat) : Nat → Nat
  | 0 => 0
  | k + 1 => if so k = 2 ∧ gnN so S k < S k then S k else gnN so S k
theorem gnN_le {sc : Nat → Nat → Nat} {so S : Nat → Nat} (hs : lS sc so S) : ∀ {k : Nat}, k ≤ 12 → gnN so S k ≤ 512
  | 0, _ => Nat.zero_le _
  | k + 1, hk => by
    have := gnN_le hs (k := k) (by omega)
    have := (hs k (by omega)).1
    simp only [gnN]
    split <;> omega
theorem gnN_512 {sc : Nat → Nat → Nat} {so S : Nat → Nat} (hs : lS sc so S) : ∀ {k : Nat}, k ≤ 12 → (gnN so S k = 512 ↔ anyN (fun l => decide (so l = 2) && decide (¬ S l < 512)) k = true)
  | 0, _ => by simp [gnN, anyN]
  | k + 1, hk => by
    have ih := gnN_512 hs (k := k) (by omega)
    have h1 := gnN_le hs (k := k) (by omega)
    have h2 := (hs k (by omega)).1
    simp only [gnN, anyN, Bool.or_eq_true, Bool.and_eq_true, decide_eq_true_eq]
    rw [← ih]
    by_cases a : so k = 2
    · by_cases b : gnN so S k < S k
      · rw [if_pos ⟨a, b⟩]; omega
      · rw [if_neg (fun q => b q.2)]; omega
    · rw [if_neg (fun q => a q.1)]; omega
/-- a number that is -1 where none was found -/
def nO (v : Nat) (x : Int32) : Prop := (x = -1 ∧ v = 0) ∨ x = nI v
theorem q_greatestNeeded {post : Int32 → Prop} {sc : Nat → Nat → Nat} {so we S : Nat → Nat} {M : em_M} (h : cS sc M) (hq : cQ so we M) (hs : lS sc so S) (hc : cL sc so S M) (hp : ∀ x, nO (gnN so S 12) x → post x) : wp_LW_greatestNeeded post M := by
  unfold wp_LW_greatestNeeded
  refine lpA (by omega) (by omega) (fun k a => nO (gnN so S k) a) (Or.inl ⟨rfl, rfl⟩) hp ?_
  rintro I mu k a hk _ ha st
  have h1 := gnN_le hs (k := k) (by omega)
  have h2 := (hs k hk).1
  obtain ⟨g1, g2, -⟩ := hq k hk
  simp (disch := omega) only [em_join, forall_eq, n_in, nI_clamp, g1, nI_eq]
  refine ⟨hk, fun c => st _ ?_, fun c => q_standing h hq hs hc hk (st _ ?_)⟩
  · simp only [gnN]; rw [if_neg (fun q => c q.1)]; exact ha
  · simp only [gnN]
    rcases ha with ⟨rfl, e⟩ | rfl
    · have : (-1 : Int32) < nI (S k) := Int32.lt_of_lt_of_le (by decide) ((nz_ge (by omega)).mpr trivial)
      rw [if_pos this, e]
      refine Or.inr ?_
      by_cases b : 0 < S k
      · rw [if_pos ⟨c, b⟩]
      · rw [if_neg (fun q => b q.2), show S k = 0 by omega]
    · simp (disch := omega) only [nI_ltI]
      by_cases b : gnN so S k < S k
      · rw [if_pos b, if_pos ⟨c, b⟩]; exact Or.inr rfl
      · rw [if_neg b, if_neg (fun q => b q.2)]; exact Or.inr rfl
def Bd (sc : Nat → Nat → Nat) (we : Nat → Nat) (l : Nat) : Nat := we l * tpN (sc l) 0 120 512
theorem Bd_le {sc : Nat → Nat → Nat} {we : Nat → Nat} {l : Nat} (h1 : we l ≤ 9) (h2 : ∀ o, o < 512 → sc l o ≤ 100) : Bd sc we l ≤ 900 := by
  have : tpN (sc l) 0 120 512 ≤ 100 := tpN_le (fun t h _ _ _ => h2 t h)
  calc Bd sc we l ≤ 9 * 100 := Nat.mul_le_mul h1 this
    _ = 900 := rfl
theorem smN_le {g : Nat → Nat} {v : Nat} : ∀ {n : Nat}, (∀ l, l < n → g l ≤ v) → smN g n ≤ v * n
  | 0, _ => Nat.zero_le _
  | n + 1, h => by
    have := smN_le (g := g) (v := v) (n := n) (fun l hl => h l (by omega))
    have := h n (by omega)
    simp only [smN, Nat.mul_succ]
    omega
theorem smN_c {g g' : Nat → Nat} : ∀ {n : Nat}, (∀ l, l < n → g l = g' l) → smN g n = smN g' n
  | 0, _ => rfl
  | n + 1, h => by
    simp only [smN]
    rw [smN_c (n := n) (fun l hl => h l (by omega)), h n (by omega)]
def bdN (S B : Nat → Nat) (x : Nat) : Nat := smN (fun l => if S l ≤ x then B l else 0) 12
theorem q_boundUpTo {post : Int32 → Prop} {sc : Nat → Nat → Nat} {so we S B : Nat → Nat} {M : em_M} {x : Nat} (h : cS sc M) (hq : cQ so we M) (hs : lS sc so S) (hc : cL sc so S M) (hB : ∀ l, l < 12 → M 50 l = nI (B l)) (hx : x < 2 ^ 31) (hp : post (nI (bdN S B x))) : wp_LW_boundUpTo post (nI x) M := by
  unfold wp_LW_boundUpTo
  refine lpA (by omega) (by omega) (fun k a => a = nI (smN (fun l => if S l ≤ x then B l else 0) k)) rfl (fun a e => e ▸ hp) ?_
  rintro I mu k _ hk _ rfl st
  have := (hs k hk).1
  refine q_standing h hq hs hc hk ?_
  simp (disch := omega) only [em_join, forall_eq, nI_ltI, n_in, nI_clamp, hB k hk]
  refine ⟨fun c => st _ ?_, fun c => ⟨hk, st _ ?_⟩⟩
  · simp only [smN]; rw [if_neg (by omega)]; rfl
  · simp only [smN]; rw [if_pos (by omega), nI_add]
def pvN (S B : Nat → Nat) (f : Int32) : Nat → Nat
  | 0 => 512
  | k + 1 => if S k < pvN S B f k ∧ ¬ nI (bdN S B (S k)) ≤ f then S k else pvN S B f k
theorem pvN_le {S B : Nat → Nat} {f : Int32} : ∀ k, pvN S B f k ≤ 512
  | 0 => Nat.le_refl _
  | k + 1 => by
    have := pvN_le (S := S) (B := B) (f := f) k
    simp only [pvN]
    split <;> omega
theorem q_firstAbove {post : Int32 → Prop} {sc : Nat → Nat → Nat} {so we S B : Nat → Nat} {M : em_M} {f : Int32} (h : cS sc M) (hq : cQ so we M) (hs : lS sc so S) (hc : cL sc so S M) (hB : ∀ l, l < 12 → M 50 l = nI (B l)) (hp : post (nI (pvN S B f 12))) : wp_LW_firstAbove post f M := by
  unfold wp_LW_firstAbove
  refine lpA (by omega) (by omega) (fun k a => a = nI (pvN S B f k)) rfl (fun a e => e ▸ hp) ?_
  rintro I mu k _ hk _ rfl st
  have := pvN_le (S := S) (B := B) (f := f) k
  have := (hs k hk).1
  refine q_standing h hq hs hc hk ?_
  simp (disch := omega) only [em_join, forall_eq, nI_leI]
  refine ⟨fun c => st _ ?_, fun c => q_boundUpTo h hq hs hc hB (by omega) ⟨fun d => st _ ?_, fun d => st _ ?_⟩⟩
  · simp only [pvN]; rw [if_neg (by omega)]
  · simp only [pvN]; rw [if_neg (fun q => q.2 d)]
  · simp only [pvN]; rw [if_pos ⟨by omega, d⟩]
def isPv (S B : Nat → Nat) (f : Int32) (n r : Nat) : Prop := (r = 512 ∨ (r < 512 ∧ (∃ l, l < n ∧ S l = r) ∧ ¬ nI (bdN S B r) ≤ f)) ∧ ∀ l, l < n → S l < r → nI (bdN S B (S l)) ≤ f
theorem pv_is {S B : Nat → Nat} {f : Int32} : ∀ n, isPv S B f n (pvN S B f n)
  | 0 => ⟨Or.inl rfl, fun l h _ => absurd h (Nat.not_lt_zero _)⟩
  | n + 1 => by
    obtain ⟨a, b⟩ := pv_is (S := S) (B := B) (f := f) n
    have hle := pvN_le (S := S) (B := B) (f := f) n
    simp only [pvN]
    by_cases c : S n < pvN S B f n ∧ ¬ nI (bdN S B (S n)) ≤ f
    · rw [if_pos c]
      refine ⟨Or.inr ⟨by omega, ⟨n, by omega, rfl⟩, c.2⟩, fun l hl h => ?_⟩
      by_cases e : l = n
      · subst e; omega
      · exact b l (by omega) (by omega)
    · rw [if_neg c]
      refine ⟨?_, fun l hl h => ?_⟩
      · rcases a with a | ⟨a1, ⟨l, l1, l2⟩, a3⟩
        · exact Or.inl a
        · exact Or.inr ⟨a1, ⟨l, by omega, l2⟩, a3⟩
      · by_cases e : l = n
        · subst e
          by_cases d : nI (bdN S B (S l)) ≤ f
          · exact d
          · exact absurd ⟨h, d⟩ c
        · exact b l (by omega) h
theorem isPv_un {S B : Nat → Nat} {f : Int32} {n r r' : Nat} (h : isPv S B f n r) (h' : isPv S B f n r') : r = r' := by
  obtain ⟨a, b⟩ := h
  obtain ⟨a', b'⟩ := h'
  rcases Nat.lt_trichotomy r r' with q | q | q
  · rcases a with a | ⟨a1, ⟨l, l1, l2⟩, a3⟩
    · omega
    · exact absurd (by rw [← l2]; exact b' l l1 (by omega)) a3
  · exact q
  · rcases a' with a | ⟨a1, ⟨l, l1, l2⟩, a3⟩
    · omega
    · exact absurd (by rw [← l2]; exact b l l1 (by omega)) a3
