/-! THOSE HELD: rows (object, number, sum, key) -/
abbrev RR : Type := Int32 × Int32 × Int32 × Int32
def rC (M : em_M) (j : Nat) : RR := (M 44 j, M 45 j, M 46 j, M 47 j)
def rM (M : em_M) (j : Nat) : RR := (M 57 j, M 58 j, M 59 j, M 60 j)
/-- a stands before b -/
def ahd (a b : RR) : Bool := decide (b.2.1 < a.2.1) || (decide (a.2.1 = b.2.1) && decide (a.1 < b.1))
/-- where e comes among the first k -/
def posR (T : Nat → RR) (e : RR) : Nat → Nat
  | 0 => 0
  | k + 1 => if ahd e (T k) then posR T e k else k + 1
theorem posR_le (T : Nat → RR) (e : RR) : ∀ k, posR T e k ≤ k
  | 0 => Nat.le_refl 0
  | k + 1 => by
    have := posR_le T e k
    simp only [posR]
    split <;> omega
theorem posR_c {T T' : Nat → RR} {e : RR} : ∀ {k : Nat}, (∀ j, j < k → T j = T' j) → posR T e k = posR T' e k
  | 0, _ => rfl
  | k + 1, h => by
    simp only [posR]
    rw [h k (by omega), posR_c (k := k) (fun j hj => h j (by omega))]
def insR (T : Nat → RR) (e : RR) (p : Nat) : Nat → RR := fun j => if j < p then T j else if j = p then e else T (j - 1)
theorem q_isAhead {post : Int32 → Prop} {v o : Int32} {s : Nat} {M : em_M} {e : RR} (hs : s < 20) (e1 : e.1 = o) (e2 : e.2.1 = v) (hp : post (bI (ahd e (rC M s)))) : wp_RK_isAhead post v o (nI s) M := by
  simp (disch := omega) only [wp_RK_isAhead, n_in, nI_clamp]
  refine ⟨hs, fun c => ?_, fun c => ⟨fun d => ?_, fun d => ⟨fun f => ?_, fun f => ?_⟩⟩⟩
  · simpa [ahd, rC, e2, c, bI] using hp
  · simpa [ahd, rC, e2, c, d, bI] using hp
  · have : ¬ o < M 44 s := Int32.not_lt.mpr f
    simpa [ahd, rC, e1, e2, c, d, this, bI] using hp
  · have : o < M 44 s := Int32.not_le.mp f
    simpa [ahd, rC, e1, e2, c, d, this, bI] using hp
theorem q_swap {post : em_M → Prop} {k0 i : Nat} {M : em_M} (hi : i + 1 < 20) (hp : ∀ M', (∀ c, c ≠ k0 → M' c = M c) → (∀ j, M' k0 j = if j = i + 1 then M k0 i else if j = i then M k0 (i + 1) else M k0 j) → post M') : wp_RK_swap post k0 (nI (i + 1)) M := by
  unfold wp_RK_swap
  rw [pk_sub (by omega)]
  simp (disch := omega) only [n_in, nI_clamp, forall_eq]
  refine ⟨hi, by omega, hp _ (fun c hc => by rw [eu_ne hc, eu_ne hc]) (fun j => ?_)⟩
  rw [show i + 1 - 1 = i by omega]
  by_cases c : j = i
  · subst c
    rw [eu_eq, if_neg (by omega), if_pos rfl]
  · rw [eu_j c]
    by_cases d : j = i + 1
    · subst d
      rw [eu_eq, if_pos rfl]
    · rw [eu_j d, if_neg d, if_neg c]
theorem q_rise {post : em_M → Prop} {i : Nat} {M : em_M} (hi : i < 20) (hp : ∀ M', (∀ c, c ≠ 44 → c ≠ 45 → c ≠ 46 → c ≠ 47 → M' c = M c) → (∀ j, rC M' j = if j ≤ i then insR (rC M) (rC M i) (posR (rC M) (rC M i) i) j else rC M j) → post M') : wp_RK_rise post (nI i) M := by
  unfold wp_RK_rise
  refine ⟨fun x M2 => ∃ k, k ≤ i ∧ x = nI k ∧ (∀ c, c ≠ 44 → c ≠ 45 → c ≠ 46 → c ≠ 47 → M2 c = M c) ∧ (∀ j, rC M2 j = if j ≤ i then insR (rC M) (rC M i) k j else rC M j) ∧ posR (rC M) (rC M i) i = posR (rC M) (rC M i) k, fun x _ => x.toNatClampNeg, ⟨i, Nat.le_refl _, rfl, fun _ _ _ _ _ => rfl, fun j => ?_, rfl⟩, ?_⟩
  · unfold insR
    by_cases c : j < i
    · rw [if_pos (by omega), if_pos c]
    · by_cases d : j = i
      · subst d
        rw [if_pos (Nat.le_refl _), if_neg (Nat.lt_irrefl _), if_pos rfl]
      · rw [if_neg (by omega)]
  rintro _ M2 ⟨k, k1, rfl, k2, k3, k4⟩
  simp (disch := omega) only [nz_le, n_in, nI_clamp, forall_eq]
  refine ⟨fun c => ?_, fun c => ⟨by omega, ?_⟩⟩
  · subst c
    refine hp _ k2 ?_
    rw [k4]
    exact k3
  obtain ⟨k', rfl⟩ : ∃ k', k = k' + 1 := ⟨k - 1, by omega⟩
  have r1 : rC M2 (k' + 1) = rC M i := by
    rw [k3, if_pos k1]; unfold insR
    rw [if_neg (Nat.lt_irrefl _), if_pos rfl]
  have r0 : rC M2 k' = rC M k' := by
    rw [k3, if_pos (by omega)]; unfold insR
    rw [if_pos (by omega)]
  rw [pk_sub (by omega), show k' + 1 - 1 = k' by omega]
  refine q_isAhead (e := rC M i) (by omega) (by rw [← r1]; rfl) (by rw [← r1]; rfl) ?_
  rw [r0, bI_0]
  refine ⟨fun c => hp _ k2 ?_, fun c => ?_⟩
  · rw [k4]
    simp only [posR, c]
    exact k3
  have hc : ahd (rC M i) (rC M k') = true := by simpa using c
  refine q_swap (by omega) (fun M3 s1 t1 => q_swap (by omega) (fun M4 s2 t2 => q_swap (by omega) (fun M5 s3 t3 => q_swap (by omega) (fun M6 s4 t4 => ?_))))
  have em : nI (k' + 1) + -1 = nI k' := pk_m1 k'
  rw [em]
  refine ⟨⟨k', by omega, rfl, fun c c1 c2 c3 c4 => ?_, fun j => ?_, ?_⟩, ?_⟩
  · rw [s4 c c4, s3 c c3, s2 c c2, s1 c c1]; exact k2 c c1 c2 c3 c4
  · have hrow : rC M6 j = if j = k' + 1 then rC M2 k' else if j = k' then rC M2 (k' + 1) else rC M2 j := by
      unfold rC
      rw [s4 44 (by omega), s3 44 (by omega), s2 44 (by omega), t1, s4 45 (by omega), s3 45 (by omega), t2, s1 45 (by omega), s4 46 (by omega), t3, s2 46 (by omega), s1 46 (by omega), t4, s3 47 (by omega), s2 47 (by omega), s1 47 (by omega)]
      by_cases a : j = k' + 1
      · simp only [if_pos a]
      · by_cases b : j = k'
        · simp only [if_neg a, if_pos b]
        · simp only [if_neg a, if_neg b]
    rw [hrow, r0, r1]
    by_cases a : j = k' + 1
    · subst a
      rw [if_pos rfl, if_pos k1]; unfold insR
      rw [if_neg (by omega), if_neg (by omega)]; rfl
    · rw [if_neg a]
      by_cases b : j = k'
      · subst b
        rw [if_pos rfl, if_pos (by omega)]; unfold insR
        rw [if_neg (Nat.lt_irrefl _), if_pos rfl]
      · rw [if_neg b, k3]
        by_cases d : j ≤ i
        · rw [if_pos d, if_pos d]; unfold insR
          by_cases f : j < k'
          · rw [if_pos (by omega), if_pos f]
          · rw [if_neg (by omega), if_neg a, if_neg f, if_neg b]
        · rw [if_neg d, if_neg d]
  · rw [k4]
    simp only [posR, hc, if_true]
  · show (nI k').toNatClampNeg < k' + 1
    rw [nI_clamp (by omega)]; omega
/-- the class holds the first n of T -/
def hC (T : Nat → RR) (n : Nat) (M : em_M) : Prop := M 43 4 = nI n ∧ ∀ j, j < n → rC M j = T j
def hM (T : Nat → RR) (n : Nat) (M : em_M) : Prop := M 52 8 = nI n ∧ ∀ j, j < n → rM M j = T j
theorem q_offer {post : em_M → Prop} {o v s k : Int32} {T : Nat → RR} {n w : Nat} {M : em_M} (h : hC T n M) (hr : M 43 5 = nI w) (hw1 : 1 ≤ w) (hw : w ≤ 20) (hn : n ≤ w)
    (hp : ∀ M', (∀ c, c ≠ 43 → c ≠ 44 → c ≠ 45 → c ≠ 46 → c ≠ 47 → M' c = M c) → M' 43 5 = nI w → hC (insR T (o, v, s, k) (posR T (o, v, s, k) n)) (if n = w then n else n + 1) M' → post M') : wp_RK_offer post o v s k M := by
  obtain ⟨h1, h2⟩ := h
  simp (disch := omega) only [wp_RK_offer, wp_RK_isFull, forall_eq, em_join, h1, hr, nI_ltI]
  refine ⟨fun c => ⟨fun _ => ?_, fun q => absurd rfl q⟩, fun c => ⟨fun q => absurd q nI_10, fun _ => ?_⟩⟩
  · simp (disch := omega) only [n_in, nI_clamp, nI_add]
    refine ⟨by omega, q_rise (by omega) (fun M' s1 t1 => ?_)⟩
    generalize hM0 : em_up (em_up (em_up (em_up (em_up M 43 4 (nI (n + 1))) 44 n o) 45 n v) 46 n s) 47 n k = M0 at s1 t1
    have z43 : M0 43 = em_up M 43 4 (nI (n + 1)) 43 := by rw [← hM0, eu_ne (by omega), eu_ne (by omega), eu_ne (by omega), eu_ne (by omega)]
    have zr : ∀ j, j < n → rC M0 j = T j := by
      intro j hj
      rw [← h2 j hj, ← hM0]
      unfold rC
      simp (disch := omega) only [eu_ne, eu_j]
    have ze : rC M0 n = (o, v, s, k) := by
      rw [← hM0]
      unfold rC
      simp (disch := omega) only [eu_ne, eu_eq]
    refine hp M' (fun c c0 c1 c2 c3 c4 => ?_) ?_ ⟨?_, fun j hj => ?_⟩
    · rw [s1 c c1 c2 c3 c4, ← hM0, eu_ne c4, eu_ne c3, eu_ne c2, eu_ne c1, eu_ne c0]
    · rw [s1 43 (by omega) (by omega) (by omega) (by omega), z43, eu_j (by omega)]; exact hr
    · rw [s1 43 (by omega) (by omega) (by omega) (by omega), z43, eu_eq, if_neg (by omega)]
    · rw [if_neg (by omega)] at hj
      rw [t1, if_pos (by omega), ze, posR_c zr]
      have hpl := posR_le T (o, v, s, k) n
      unfold insR
      by_cases a : j < posR T (o, v, s, k) n
      · rw [if_pos a, if_pos a]; exact zr j (by omega)
      · rw [if_neg a, if_neg a]
        by_cases b : j = posR T (o, v, s, k) n
        · rw [if_pos b, if_pos b]
        · rw [if_neg b, if_neg b]; exact zr (j - 1) (by omega)
  · have en : n = w := by omega
    obtain ⟨n', rfl⟩ : ∃ n', n = n' + 1 := ⟨n - 1, by omega⟩
    rw [pk_sub (by omega), show n' + 1 - 1 = n' by omega]
    simp (disch := omega) only [nz_lt]
    refine ⟨fun q => q.elim, fun _ => q_isAhead (e := (o, v, s, k)) (by omega) rfl rfl ?_⟩
    rw [h2 n' (by omega), bI_0]
    refine ⟨fun c => ?_, fun c => ?_⟩
    · have hc : ahd (o, v, s, k) (T n') = true := by simpa using c
      simp (disch := omega) only [n_in, nI_clamp]
      refine ⟨by omega, q_rise (by omega) (fun M' s1 t1 => ?_)⟩
      generalize hM0 : em_up (em_up (em_up (em_up M 44 n' o) 45 n' v) 46 n' s) 47 n' k = M0 at s1 t1
      have z43 : M0 43 = M 43 := by rw [← hM0, eu_ne (by omega), eu_ne (by omega), eu_ne (by omega), eu_ne (by omega)]
      have zr : ∀ j, j < n' → rC M0 j = T j := by
        intro j hj
        rw [← h2 j (by omega), ← hM0]
        unfold rC
        simp (disch := omega) only [eu_ne, eu_j]
      have ze : rC M0 n' = (o, v, s, k) := by
        rw [← hM0]
        unfold rC
        simp (disch := omega) only [eu_ne, eu_eq]
      refine hp M' (fun c c0 c1 c2 c3 c4 => ?_) ?_ ⟨?_, fun j hj => ?_⟩
      · rw [s1 c c1 c2 c3 c4, ← hM0, eu_ne c4, eu_ne c3, eu_ne c2, eu_ne c1]
      · rw [s1 43 (by omega) (by omega) (by omega) (by omega), z43]; exact hr
      · rw [s1 43 (by omega) (by omega) (by omega) (by omega), z43, if_pos en]; exact h1
      · rw [if_pos en] at hj
        have ep : posR T (o, v, s, k) (n' + 1) = posR T (o, v, s, k) n' := by simp only [posR, hc, if_true]
        have hpl := posR_le T (o, v, s, k) n'
        rw [t1, if_pos (by omega), ze, posR_c zr, ep]
        unfold insR
        by_cases a : j < posR T (o, v, s, k) n'
        · rw [if_pos a, if_pos a]; exact zr j (by omega)
        · rw [if_neg a, if_neg a]
          by_cases b : j = posR T (o, v, s, k) n'
          · rw [if_pos b, if_pos b]
          · rw [if_neg b, if_neg b]; exact zr (j - 1) (by omega)
    · have ep : posR T (o, v, s, k) (n' + 1) = n' + 1 := by simp only [posR, c]; rfl
      refine hp M (fun _ _ _ _ _ _ => rfl) hr ⟨by rw [if_pos en]; exact h1, fun j hj => ?_⟩
      rw [if_pos en] at hj
      rw [ep]
      unfold insR
      rw [if_pos hj]
      exact h2 j hj
theorem m_move {post : em_M → Prop} {a b : Nat} {M : em_M} (ha : a < 21) (hb : b < 21) (hp : ∀ M', (∀ c, c ≠ 57 → c ≠ 58 → c ≠ 59 → c ≠ 60 → M' c = M c) → (∀ j, rM M' j = if j = b then rM M a else rM M j) → post M') : wp_MD_move post (nI a) (nI b) M := by
  simp (disch := omega) only [wp_MD_move, n_in, nI_clamp, forall_eq]
  refine ⟨ha, hb, hp _ (fun c c1 c2 c3 c4 => by rw [eu_ne c4, eu_ne c3, eu_ne c2, eu_ne c1]) (fun j => ?_)⟩
  unfold rM
  by_cases e : j = b
  · subst e
    simp (disch := omega) only [eu_ne, eu_eq, if_true]
  · simp (disch := omega) only [eu_ne, eu_j, if_neg e]
theorem m_hold {post : em_M → Prop} {sc : Nat → Nat → Nat} {so we : Nat → Nat} {ky : Nat → Int32} {o n w : Nat} {v : Int32} {T : Nat → RR} {M : em_M} (hS : mS sc M) (hQ : mQ so we M) (hk : M 54 o = ky o) (ho : o < 512) (h : hM T n M) (hr : M 52 5 = nI w) (hw1 : 1 ≤ w) (hw : w ≤ 20) (hn : n ≤ w)
    (hp : ∀ M', (∀ c, c ≠ 52 → c ≠ 57 → c ≠ 58 → c ≠ 59 → c ≠ 60 → M' c = M c) → (∀ j, j ≠ 8 → M' 52 j = M 52 j) → hM (insR T (nI o, v, nI (smS sc so we o), ky o) (posR T (nI o, v, nI (smS sc so we o), ky o) n)) (if n = w then n else n + 1) M' → post M') : wp_MD_hold post (nI o) v M := by
  obtain ⟨h1, h2⟩ := h
  generalize he : ((nI o, v, nI (smS sc so we o), ky o) : RR) = e at hp
  have e1 : e.1 = nI o := by rw [← he]
  have e2 : e.2.1 = v := by rw [← he]
  simp only [wp_MD_hold, forall_eq, h1]
  refine ⟨fun x M2 => ∃ k, k ≤ n ∧ x = nI k ∧ (∀ c, c ≠ 57 → c ≠ 58 → c ≠ 59 → c ≠ 60 → M2 c = M c) ∧ (∀ j, j < k → rM M2 j = T j) ∧ (∀ j, k < j → j ≤ n → rM M2 j = T (j - 1)) ∧ posR T e n = posR T e k, fun x _ => x.toNatClampNeg, ⟨n, Nat.le_refl _, rfl, fun _ _ _ _ _ => rfl, h2, fun j a b => absurd b (by omega), rfl⟩, ?_⟩
  rintro _ M2 ⟨k, k1, rfl, k2, k3, k4, k5⟩
  have exit : posR T e n = k → vp_in (nI k) 21 ∧ wp_MD_sumOf (fun r_19 => vp_in (nI o) 512 ∧ ((¬ (em_up (em_up (em_up (em_up M2 57 (nI k).toNatClampNeg (nI o)) 58 (nI k).toNatClampNeg v) 59 (nI k).toNatClampNeg r_19) 60 (nI k).toNatClampNeg (em_up (em_up (em_up M2 57 (nI k).toNatClampNeg (nI o)) 58 (nI k).toNatClampNeg v) 59 (nI k).toNatClampNeg r_19 54 (nI o).toNatClampNeg)) 52 8 = (em_up (em_up (em_up (em_up M2 57 (nI k).toNatClampNeg (nI o)) 58 (nI k).toNatClampNeg v) 59 (nI k).toNatClampNeg r_19) 60 (nI k).toNatClampNeg (em_up (em_up (em_up M2 57 (nI k).toNatClampNeg (nI o)) 58 (nI k).toNatClampNeg v) 59 (nI k).toNatClampNeg r_19 54 (nI o).toNatClampNeg)) 52 5 → post (em_up (em_up (em_up (em_up (em_up M2 57 (nI k).toNatClampNeg (nI o)) 58 (nI k).toNatClampNeg v) 59 (nI k).toNatClampNeg r_19) 60 (nI k).toNatClampNeg (em_up (em_up (em_up M2 57 (nI k).toNatClampNeg (nI o)) 58 (nI k).toNatClampNeg v) 59 (nI k).toNatClampNeg r_19 54 (nI o).toNatClampNeg)) 52 8 ((em_up (em_up (em_up (em_up M2 57 (nI k).toNatClampNeg (nI o)) 58 (nI k).toNatClampNeg v) 59 (nI k).toNatClampNeg r_19) 60 (nI k).toNatClampNeg (em_up (em_up (em_up M2 57 (nI k).toNatClampNeg (nI o)) 58 (nI k).toNatClampNeg v) 59 (nI k).toNatClampNeg r_19 54 (nI o).toNatClampNeg)) 52 8 + nI 1))) ∧ ((em_up (em_up (em_up (em_up M2 57 (nI k).toNatClampNeg (nI o)) 58 (nI k).toNatClampNeg v) 59 (nI k).toNatClampNeg r_19) 60 (nI k).toNatClampNeg (em_up (em_up (em_up M2 57 (nI k).toNatClampNeg (nI o)) 58 (nI k).toNatClampNeg v) 59 (nI k).toNatClampNeg r_19 54 (nI o).toNatClampNeg)) 52 8 = (em_up (em_up (em_up (em_up M2 57 (nI k).toNatClampNeg (nI o)) 58 (nI k).toNatClampNeg v) 59 (nI k).toNatClampNeg r_19) 60 (nI k).toNatClampNeg (em_up (em_up (em_up M2 57 (nI k).toNatClampNeg (nI o)) 58 (nI k).toNatClampNeg v) 59 (nI k).toNatClampNeg r_19 54 (nI o).toNatClampNeg)) 52 5 → post (em_up (em_up (em_up (em_up (em_up M2 57 (nI k).toNatClampNeg (nI o)) 58 (nI k).toNatClampNeg v) 59 (nI k).toNatClampNeg r_19) 60 (nI k).toNatClampNeg (em_up (em_up (em_up M2 57 (nI k).toNatClampNeg (nI o)) 58 (nI k).toNatClampNeg v) 59 (nI k).toNatClampNeg r_19 54 (nI o).toNatClampNeg)) 52 8 ((em_up (em_up (em_up (em_up M2 57 (nI k).toNatClampNeg (nI o)) 58 (nI k).toNatClampNeg v) 59 (nI k).toNatClampNeg r_19) 60 (nI k).toNatClampNeg (em_up (em_up (em_up M2 57 (nI k).toNatClampNeg (nI o)) 58 (nI k).toNatClampNeg v) 59 (nI k).toNatClampNeg r_19 54 (nI o).toNatClampNeg)) 52 8))))) (nI o) (em_up (em_up M2 57 (nI k).toNatClampNeg (nI o)) 58 (nI k).toNatClampNeg v) := by
    intro hpos
    simp (disch := omega) only [n_in, nI_clamp]
    refine ⟨by omega, m_sumOf (sc := sc) (so := so) (we := we) (mS_c hS (by rw [eu_ne (by omega), eu_ne (by omega)]; exact k2 53 (by omega) (by omega) (by omega) (by omega))) (mQ_c hQ (by rw [eu_ne (by omega), eu_ne (by omega)]; exact k2 55 (by omega) (by omega) (by omega) (by omega)) (by rw [eu_ne (by omega), eu_ne (by omega)]; exact k2 56 (by omega) (by omega) (by omega) (by omega))) ho ⟨ho, ?_⟩⟩
    have k54 : M2 54 = M 54 := k2 54 (by omega) (by omega) (by omega) (by omega)
    have k52 : M2 52 = M 52 := k2 52 (by omega) (by omega) (by omega) (by omega)
    simp (disch := omega) only [eu_ne, k52, k54, hk, h1, hr, nI_eq, nI_add]
    generalize hM0 : em_up (em_up (em_up (em_up M2 57 k (nI o)) 58 k v) 59 k (nI (smS sc so we o))) 60 k (ky o) = M0
    have z : ∀ c, c ≠ 57 → c ≠ 58 → c ≠ 59 → c ≠ 60 → M0 c = M c := by
      intro c c1 c2 c3 c4
      rw [← hM0, eu_ne c4, eu_ne c3, eu_ne c2, eu_ne c1]
      exact k2 c c1 c2 c3 c4
    have zk : rM M0 k = e := by
      rw [← hM0, ← he]
      unfold rM
      simp (disch := omega) only [eu_ne, eu_eq]
    have zr : ∀ j, j ≠ k → rM M0 j = rM M2 j := by
      intro j hj
      rw [← hM0]
      unfold rM
      simp (disch := omega) only [eu_ne, eu_j]
    have fin : ∀ y : Int32, y = nI (if n = w then n else n + 1) → post (em_up M0 52 8 y) := by
      intro y hy
      refine hp _ (fun c c0 c1 c2 c3 c4 => by rw [eu_ne c0]; exact z c c1 c2 c3 c4) (fun j hj => by rw [eu_j hj, z 52 (by omega) (by omega) (by omega) (by omega)]) ⟨by rw [eu_eq, hy], fun j hj => ?_⟩
      have er : rM (em_up M0 52 8 y) j = rM M0 j := by
        unfold rM
        simp (disch := omega) only [eu_ne]
      rw [er, hpos]
      unfold insR
      have hj' : j ≤ n := by split at hj <;> omega
      by_cases a : j < k
      · rw [if_pos a, zr j (by omega)]; exact k3 j a
      · rw [if_neg a]
        by_cases b : j = k
        · rw [if_pos b, b]; exact zk
        · rw [if_neg b, zr j b]; exact k4 j (by omega) hj'
    exact ⟨fun c => fin _ (by rw [if_neg c]), fun c => fin _ (by rw [if_pos c])⟩
  simp only [em_join, forall_eq]
  simp (disch := omega) only [nz_le]
  refine ⟨fun c => exit (by rw [k5, c]; rfl), fun c => ?_⟩
  obtain ⟨k', rfl⟩ : ∃ k', k = k' + 1 := ⟨k - 1, by omega⟩
  have hrow := k3 k' (by omega)
  rw [pk_sub (by omega), show k' + 1 - 1 = k' by omega]
  have ev : M2 58 k' = (T k').2.1 := by rw [← hrow]; rfl
  have eo : M2 57 k' = (T k').1 := by rw [← hrow]; rfl
  have go : ahd e (T k') = true → wp_MD_move (fun M_32 => (∃ k, k ≤ n ∧ nI (k' + 1) + -1 = nI k ∧ (∀ c, c ≠ 57 → c ≠ 58 → c ≠ 59 → c ≠ 60 → M_32 c = M c) ∧ (∀ j, j < k → rM M_32 j = T j) ∧ (∀ j, k < j → j ≤ n → rM M_32 j = T (j - 1)) ∧ posR T e n = posR T e k) ∧ (nI (k' + 1) + -1).toNatClampNeg < (nI (k' + 1)).toNatClampNeg) (nI k') (nI (k' + 1)) M2 := by
    intro hc
    refine m_move (by omega) (by omega) (fun M3 s1 t1 => ?_)
    rw [pk_m1]
    refine ⟨⟨k', by omega, rfl, fun c c1 c2 c3 c4 => by rw [s1 c c1 c2 c3 c4]; exact k2 c c1 c2 c3 c4, fun j hj => ?_, fun j j1 j2 => ?_, ?_⟩, ?_⟩
    · rw [t1, if_neg (by omega)]; exact k3 j (by omega)
    · rw [t1]
      by_cases b : j = k' + 1
      · rw [if_pos b, b]; exact hrow
      · rw [if_neg b]; exact k4 j (by omega) j2
    · rw [k5]; simp only [posR, hc, if_true]
    · rw [nI_clamp (by omega), nI_clamp (by omega)]; omega
  have stop : ahd e (T k') = false → posR T e n = k' + 1 := by
    intro hc
    rw [k5]; simp only [posR, hc]; rfl
  simp (disch := omega) only [n_in, nI_clamp, ev, eo]
  refine ⟨by omega, fun c => ?_, fun c => ⟨fun d => ?_, fun d => ⟨fun f => ?_, fun f => ?_⟩⟩⟩
  · have := go (by simp [ahd, e2, c])
    simpa (disch := omega) only [nI_clamp] using this
  · have d' : ¬ v = (T k').2.1 := fun q => d q.symm
    have := exit (stop (by simp [ahd, e2, c, d']))
    simpa (disch := omega) only [nI_clamp, n_in] using this
  · have := exit (stop (by simp [ahd, e1, e2, c, d, Int32.not_lt.mpr f]))
    simpa (disch := omega) only [nI_clamp, n_in] using this
  · have := go (by simp [ahd, e1, e2, c, d, Int32.not_le.mp f])
    simpa (disch := omega) only [nI_clamp] using this
