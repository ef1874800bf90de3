/-! A WALK's STATE; jumps, judging -/
abbrev WS : Type := (Nat → Nat) × ((Nat → RR) × Nat) × Nat × Nat × Nat × Nat × Nat
def cW (sc : Nat → Nat → Nat) (so we : Nat → Nat) (w : Nat) (M0 : em_M) (s : WS) (M : em_M) : Prop :=
  (∀ c, c < 43 ∨ 51 ≤ c → M c = M0 c) ∧ hC s.2.1.1 s.2.1.2 M ∧ M 43 5 = nI w ∧ cL sc so s.1 M ∧ (∀ l, l < 12 → M 50 l = nI (Bd sc we l)) ∧ M 48 5 = nI s.2.2.1 ∧ M 48 6 = nI s.2.2.2.1 ∧ M 48 7 = nI s.2.2.2.2.1 ∧ M 48 8 = nI s.2.2.2.2.2.1 ∧ M 48 9 = nI s.2.2.2.2.2.2
theorem cW_S {sc : Nat → Nat → Nat} {so we : Nat → Nat} {w : Nat} {M0 M : em_M} {s : WS} (h : cW sc so we w M0 s M) (hS : cS sc M0) : cS sc M := cS_c hS (fun k _ _ => h.1 k (by omega))
theorem cW_Q {sc : Nat → Nat → Nat} {so we : Nat → Nat} {w : Nat} {M0 M : em_M} {s : WS} (h : cW sc so we w M0 s M) (hQ : cQ so we M0) : cQ so we M := cQ_c hQ (h.1 41 (by omega)) (h.1 42 (by omega))
def mW (so : Nat → Nat) (M0 : em_M) (x : Int32) (s : WS) (M : em_M) : Prop :=
  (∀ c, c ≠ 52 → c ≠ 57 → c ≠ 58 → c ≠ 59 → c ≠ 60 → c ≠ 61 → M c = M0 c) ∧ (∀ j, j ≠ 0 → j ≠ 8 → j ≠ 9 → j ≠ 10 → (j < 16 ∨ 23 ≤ j) → M 52 j = M0 52 j) ∧ hM s.2.1.1 s.2.1.2 M ∧ M 52 9 = nI 0 ∧ M 52 10 = nI 1 ∧ mL so s.1 M ∧ M 52 16 = nI s.2.2.1 ∧ M 52 17 = nI s.2.2.2.1 ∧ M 52 18 = nI s.2.2.2.2.1 ∧ M 52 19 = nI s.2.2.2.2.2.1 ∧ M 52 20 = x
theorem mW_S {sc : Nat → Nat → Nat} {so : Nat → Nat} {x : Int32} {M0 M : em_M} {s : WS} (h : mW so M0 x s M) (hS : mS sc M0) : mS sc M := mS_c hS (h.1 53 (by omega) (by omega) (by omega) (by omega) (by omega) (by omega))
theorem mW_Q {so we : Nat → Nat} {x : Int32} {M0 M : em_M} {s : WS} (h : mW so M0 x s M) (hQ : mQ so we M0) : mQ so we M := mQ_c hQ (h.1 55 (by omega) (by omega) (by omega) (by omega) (by omega) (by omega)) (h.1 56 (by omega) (by omega) (by omega) (by omega) (by omega) (by omega))
def mix (S S' : Nat → Nat) (k l : Nat) : Nat := if l < k then S' l else S l
theorem mix_at {S S' : Nat → Nat} {k : Nat} : mix S S' k k = S k := if_neg (Nat.lt_irrefl _)
theorem mix_ne {S S' : Nat → Nat} {k l : Nat} (h : l ≠ k) : mix S S' (k + 1) l = mix S S' k l := by
  unfold mix
  by_cases c : l < k
  · rw [if_pos c, if_pos (by omega)]
  · rw [if_neg c, if_neg (by omega)]
theorem mix_eq {S S' : Nat → Nat} {k : Nat} : mix S S' (k + 1) k = S' k := if_pos (by omega)
theorem mix_12 {S S' : Nat → Nat} {l : Nat} (h : l < 12) : mix S S' 12 l = S' l := if_pos h
theorem mix_0 {S S' : Nat → Nat} : mix S S' 0 = S := by
  funext l
  exact if_neg (Nat.not_lt_zero _)
theorem mix_same {S S' : Nat → Nat} {k : Nat} (h : S' k = S k) : mix S S' (k + 1) = mix S S' k := by
  funext l
  by_cases c : l = k
  · rw [c, mix_eq, mix_at, h]
  · exact mix_ne c
theorem lS_mix {sc : Nat → Nat → Nat} {so S S' : Nat → Nat} (h : lS sc so S) (h' : lS sc so S') (k : Nat) : lS sc so (mix S S' k) := by
  intro l hl
  unfold mix
  by_cases c : l < k
  · rw [if_pos c]; exact h' l hl
  · rw [if_neg c]; exact h l hl
def jS (sc : Nat → Nat → Nat) (S : Nat → Nat) (r l : Nat) : Nat := if S l < r then ff (sc l) r else S l
def jP1 (sc : Nat → Nat → Nat) (S : Nat → Nat) (r l : Nat) : Nat := if S l < r then cN (sc l) r - cN (sc l) (S l) else 0
def dS (sc : Nat → Nat → Nat) (S : Nat → Nat) (q l : Nat) : Nat := if S l = q then ff (sc l) (q + 1) else S l
theorem ff_pos {f : Nat → Nat} {o : Nat} (ho : o ≤ 512) (h : ff f o < 512) : 0 < f (ff f o) := by
  obtain ⟨_, _, g⟩ := ff_is (f := f) ho
  rcases g with g | g
  · omega
  · exact g.2
theorem lS_j {sc : Nat → Nat → Nat} {so S : Nat → Nat} {r : Nat} (h : lS sc so S) (hr : r ≤ 512) : lS sc so (jS sc S r) := by
  intro l hl
  obtain ⟨a, b, c⟩ := h l hl
  unfold jS
  by_cases d : S l < r
  · rw [if_pos d]
    refine ⟨ff_le hr, fun e => ?_, fun e => ff_pos hr e⟩
    have := b e
    omega
  · rw [if_neg d]; exact ⟨a, b, c⟩
theorem lS_d {sc : Nat → Nat → Nat} {so S : Nat → Nat} {q : Nat} (h : lS sc so S) (hq : q < 512) : lS sc so (dS sc S q) := by
  intro l hl
  obtain ⟨a, b, c⟩ := h l hl
  unfold dS
  by_cases d : S l = q
  · rw [if_pos d]
    refine ⟨ff_le (by omega), fun e => ?_, fun e => ff_pos (by omega) e⟩
    have := b e
    omega
  · rw [if_neg d]; exact ⟨a, b, c⟩
theorem q_jumpAll {post : em_M → Prop} {sc : Nat → Nat → Nat} {so we : Nat → Nat} {w r : Nat} {M0 M : em_M} {s : WS} (hS : cS sc M0) (hQ : cQ so we M0) (hs : lS sc so s.1) (hr : r ≤ 512) (H : cW sc so we w M0 s M)
    (hp : ∀ M', cW sc so we w M0 (jS sc s.1 r, s.2.1, s.2.2.1, s.2.2.2.1, s.2.2.2.2.1, s.2.2.2.2.2.1 + smN (jP1 sc s.1 r) 12, s.2.2.2.2.2.2) M' → post M') : wp_LW_jumpAll post (nI r) M := by
  unfold wp_LW_jumpAll
  refine lpM (by omega) (by omega) (fun k M' => cW sc so we w M0 (mix s.1 (jS sc s.1 r) k, s.2.1, s.2.2.1, s.2.2.2.1, s.2.2.2.2.1, s.2.2.2.2.2.1 + smN (jP1 sc s.1 r) k, s.2.2.2.2.2.2) M') (by rw [mix_0]; exact H) (fun M' q => hp M' ?_) ?_
  · obtain ⟨a1, a2, a3, a4, a5⟩ := q
    refine ⟨a1, a2, a3, fun l hl ha => ?_, a5⟩
    rw [a4 l hl ha]
    show nI (cN (sc l) (mix s.1 (jS sc s.1 r) 12 l)) = _
    rw [mix_12 hl]
  intro I mu k M' hk _ q st
  have hm := lS_mix hs (lS_j hs hr) k
  have hle := (hs k hk).1
  refine q_standing (cW_S q hS) (cW_Q q hQ) hm q.2.2.2.1 hk ?_
  rw [mix_at]
  simp (disch := omega) only [em_join, forall_eq, nI_leI, n_in, nI_clamp]
  refine ⟨fun c => st _ ?_, fun c => ⟨hk, ?_⟩⟩
  · have e1 : jS sc s.1 r k = s.1 k := if_neg (by omega)
    have e2 : smN (jP1 sc s.1 r) (k + 1) = smN (jP1 sc s.1 r) k := by
      simp only [smN, jP1]; rw [if_neg (by omega)]; rfl
    rw [mix_same e1, e2]; exact q
  · obtain ⟨a1, a2, a3, a4, a5, b1, b2, b3, b4, b5⟩ := id q
    have ek := a4 k hk (lS_a hs hk (by omega))
    simp only [mix_at] at ek
    simp only at a2 b1 b2 b3 b4 b5
    rw [ek]
    have hm5 := cN_mono (f := sc k) (show s.1 k ≤ 512 by omega)
    have hmr := cN_mono (f := sc k) (show s.1 k ≤ r by omega)
    refine q_firstFrom (cW_S q hS) hk hm5 hr ?_
    rw [Nat.max_eq_right hmr, pk_sub hmr, b4, nI_add (s.2.2.2.2.2.1 + smN (jP1 sc s.1 r) k)]
    refine st _ ⟨fun c hc => ?_, ⟨?_, fun j hj => ?_⟩, ?_, fun l hl ha => ?_, fun l hl => ?_, ?_, ?_, ?_, ?_, ?_⟩
    · rw [eu_ne (by omega), eu_ne (by omega)]; exact a1 c hc
    · rw [eu_ne (by omega), eu_ne (by omega)]; exact a2.1
    · have e : rC (em_up (em_up M' 48 8 (nI (s.2.2.2.2.2.1 + smN (jP1 sc s.1 r) k + (cN (sc k) r - cN (sc k) (s.1 k))))) 49 k (nI (cN (sc k) r))) j = rC M' j := by
        unfold rC
        simp (disch := omega) only [eu_ne]
      rw [e]; exact a2.2 j hj
    · rw [eu_ne (by omega), eu_ne (by omega)]; exact a3
    · by_cases e : l = k
      · subst e
        show _ = nI (cN (sc l) (mix s.1 (jS sc s.1 r) (l + 1) l))
        rw [eu_eq, mix_eq]
        unfold jS
        rw [if_pos (by omega), cN_ff hr]
      · show _ = nI (cN (sc l) (mix s.1 (jS sc s.1 r) (k + 1) l))
        rw [eu_j e, eu_ne (by omega), mix_ne e]; exact a4 l hl ha
    · rw [eu_ne (by omega), eu_ne (by omega)]; exact a5 l hl
    · rw [eu_ne (by omega), eu_j (by omega)]; exact b1
    · rw [eu_ne (by omega), eu_j (by omega)]; exact b2
    · rw [eu_ne (by omega), eu_j (by omega)]; exact b3
    · rw [eu_ne (by omega), eu_eq]
      show _ = nI (s.2.2.2.2.2.1 + smN (jP1 sc s.1 r) (k + 1))
      simp only [smN]
      rw [show jP1 sc s.1 r k = cN (sc k) r - cN (sc k) (s.1 k) from if_pos (by omega), Nat.add_assoc]
    · rw [eu_ne (by omega), eu_j (by omega)]; exact b5
theorem m_jump {post : em_M → Prop} {sc : Nat → Nat → Nat} {l a r p : Nat} {M : em_M} (hS : mS sc M) (hl : l < 12) (ha : a < 512) (hr : r ≤ 512) (h1 : M 61 l = nI a) (h2 : M 52 19 = nI p)
    (hp : ∀ M', (∀ c, c ≠ 52 → c ≠ 61 → M' c = M c) → (∀ j, j ≠ 19 → M' 52 j = M 52 j) → (∀ j, j ≠ l → M' 61 j = M 61 j) → M' 61 l = nI (if a < r then ff (sc l) r else a) → M' 52 19 = nI (p + (if a < r then cN (sc l) r - cN (sc l) a else 0)) → post M') : wp_MD_jump post (nI l) (nI r) M := by
  simp (disch := omega) only [wp_MD_jump, forall_eq, n_in, nI_clamp, h1]
  refine ⟨hl, fun x M5 => ∃ k, a ≤ k ∧ k ≤ max a r ∧ x = nI k ∧ (∀ c, c ≠ 52 → M5 c = M c) ∧ (∀ j, j ≠ 19 → M5 52 j = M 52 j) ∧ M5 52 19 = nI (p + (cN (sc l) k - cN (sc l) a)), fun x _ => 512 - x.toNatClampNeg, ⟨a, Nat.le_refl _, by omega, rfl, fun _ _ => rfl, fun _ _ => rfl, by rw [Nat.sub_self]; exact h2⟩, ?_⟩
  rintro _ M5 ⟨k, k1, k2, rfl, k3, k4, k5⟩
  refine ejG (fun J => r ≤ k → J) (fun c => ?_) (fun J hJ => ?_)
  · rw [k3 61 (by omega), h1]
    simp (disch := omega) only [nI_leI]
    refine ⟨fun d => hp _ (fun c c1 c2 => by rw [eu_ne c2]; exact k3 c c1) (fun j hj => by rw [eu_ne (by omega)]; exact k4 j hj) (fun j hj => by rw [eu_j hj, k3 61 (by omega)]) (by rw [eu_eq, if_neg (by omega)]) ?_, fun d => m_firstFrom (mS_c hS (k3 53 (by omega))) hl hr (fun z z1 z2 => ?_)⟩
    · rw [eu_ne (by omega), k5, if_neg (by omega), show k = a by omega, Nat.sub_self]
    · refine hp _ (fun c c1 c2 => by rw [eu_ne c2]; exact k3 c c1) (fun j hj => by rw [eu_ne (by omega)]; exact k4 j hj) (fun j hj => by rw [eu_j hj, k3 61 (by omega)]) (by rw [eu_eq, if_pos (by omega), ff_un hr z2]) ?_
      rw [eu_ne (by omega), k5, if_pos (by omega), show k = r by omega]
  · simp (disch := omega) only [nI_leI]
    refine ⟨fun c => hJ c, fun c => ⟨fun d => absurd d (by omega), fun d => m_at (mS_c hS (k3 53 (by omega))) hl (by omega) ?_⟩⟩
    have hsl := (hS l hl k (by omega)).2
    have hmn := cN_mono (f := sc l) k1
    have stp : ∀ z : Int32, z = nI (p + (cN (sc l) (k + 1) - cN (sc l) a)) → (∃ k', a ≤ k' ∧ k' ≤ max a r ∧ nI k + nI 1 = nI k' ∧ (∀ c, c ≠ 52 → em_up M5 52 19 z c = M c) ∧ (∀ j, j ≠ 19 → em_up M5 52 19 z 52 j = M 52 j) ∧ em_up M5 52 19 z 52 19 = nI (p + (cN (sc l) k' - cN (sc l) a))) ∧ 512 - (nI k + nI 1).toNatClampNeg < 512 - (nI k).toNatClampNeg := by
      intro z hz
      rw [nI_add]
      refine ⟨⟨k + 1, by omega, by omega, rfl, fun c hc => by rw [eu_ne hc]; exact k3 c hc, fun j hj => by rw [eu_j hj]; exact k4 j hj, by rw [eu_eq, hz]⟩, ?_⟩
      rw [nI_clamp (by omega), nI_clamp (by omega)]; omega
    refine ejG (fun J2 => J2 (nI (p + (cN (sc l) (k + 1) - cN (sc l) a)))) (stp _ rfl) (fun J2 hJ2 => ?_)
    rw [k5]
    simp (disch := omega) only [nz_le]
    simp only [cN] at hJ2
    refine ⟨fun e => ?_, fun e => ?_⟩
    · rw [if_neg (by omega)] at hJ2; exact hJ2
    · rw [if_pos (by omega)] at hJ2
      rw [nI_add, show p + (cN (sc l) k - cN (sc l) a) + 1 = p + (cN (sc l) k + 1 - cN (sc l) a) by omega]; exact hJ2
theorem m_jumpAll {post : em_M → Prop} {sc : Nat → Nat → Nat} {so we : Nat → Nat} {r : Nat} {x : Int32} {M0 M : em_M} {s : WS} (hS : mS sc M0) (hQ : mQ so we M0) (hs : lS sc so s.1) (hr : r ≤ 512) (H : mW so M0 x s M)
    (hp : ∀ M', mW so M0 x (jS sc s.1 r, s.2.1, s.2.2.1, s.2.2.2.1, s.2.2.2.2.1, s.2.2.2.2.2.1 + smN (jP1 sc s.1 r) 12, s.2.2.2.2.2.2) M' → post M') : wp_MD_jumpAll post (nI r) M := by
  unfold wp_MD_jumpAll
  refine lpM (by omega) (by omega) (fun k M' => mW so M0 x (mix s.1 (jS sc s.1 r) k, s.2.1, s.2.2.1, s.2.2.2.1, s.2.2.2.2.1, s.2.2.2.2.2.1 + smN (jP1 sc s.1 r) k, s.2.2.2.2.2.2) M') (by rw [mix_0]; exact H) (fun M' q => hp M' ?_) ?_
  · obtain ⟨a1, a2, a3, a4, a5, a6, a7⟩ := q
    refine ⟨a1, a2, a3, a4, a5, fun l hl ha => ?_, a7⟩
    rw [a6 l hl ha]
    show nI (mix s.1 (jS sc s.1 r) 12 l) = _
    rw [mix_12 hl]
  intro I mu k M' hk _ q st
  have hm := lS_mix hs (lS_j hs hr) k
  have hle := (hs k hk).1
  refine m_isLine (mW_Q q hQ) hm q.2.2.2.2.2.1 hk ?_
  rw [mix_at]
  simp only [em_join, forall_eq, bI_0]
  refine ⟨fun c => st _ ?_, fun c => ?_⟩
  · have c' : ¬ s.1 k < 512 := by simpa using c
    have e1 : jS sc s.1 r k = s.1 k := if_neg (by omega)
    have e2 : smN (jP1 sc s.1 r) (k + 1) = smN (jP1 sc s.1 r) k := by
      simp only [smN, jP1]; rw [if_neg (by omega)]; rfl
    rw [mix_same e1, e2]; exact q
  · have c' : s.1 k < 512 := by simpa using c
    obtain ⟨a1, a2, a3, a4, a5, a6, b1, b2, b3, b4, b5⟩ := id q
    have ek := a6 k hk (lS_a hs hk c')
    simp only [mix_at] at ek
    simp only at a3 b1 b2 b3 b4 b5
    refine m_jump (mW_S q hS) hk c' hr ek b4 (fun M2 z1 z2 z3 z4 z5 => st _ ⟨fun c c1 c2 c3 c4 c5 c6 => by rw [z1 c c1 c6]; exact a1 c c1 c2 c3 c4 c5 c6, fun j j1 j2 j3 j4 j5 => by rw [z2 j (by omega)]; exact a2 j j1 j2 j3 j4 j5, ⟨by rw [z2 8 (by omega)]; exact a3.1, fun j hj => ?_⟩, by rw [z2 9 (by omega)]; exact a4, by rw [z2 10 (by omega)]; exact a5, fun l hl ha => ?_, by rw [z2 16 (by omega)]; exact b1, by rw [z2 17 (by omega)]; exact b2, by rw [z2 18 (by omega)]; exact b3, ?_, by rw [z2 20 (by omega)]; exact b5⟩)
    · have e : rM M2 j = rM M' j := by
        unfold rM
        rw [z1 57 (by omega) (by omega), z1 58 (by omega) (by omega), z1 59 (by omega) (by omega), z1 60 (by omega) (by omega)]
      rw [e]; exact a3.2 j hj
    · by_cases e : l = k
      · subst e
        show _ = nI (mix s.1 (jS sc s.1 r) (l + 1) l)
        rw [z4, mix_eq]; rfl
      · show _ = nI (mix s.1 (jS sc s.1 r) (k + 1) l)
        rw [z3 l e, mix_ne e]; exact a6 l hl ha
    · rw [z5, Nat.add_assoc]; rfl
/-- behind the place -/
def bhB (M : em_M) (v o : Int32) : Bool := decide (M 52 6 < 0 ∨ v < M 52 6 ∨ (v = M 52 6 ∧ M 52 7 < o))
theorem q_isBehind {post : Int32 → Prop} {v o : Int32} {M : em_M} (h : jP M) (hp : post (bI (bhB M v o))) : wp_QU_isBehindPlace post v o M := by
  unfold wp_QU_isBehindPlace
  unfold bhB at hp
  rcases h with ⟨h1, h2⟩ | ⟨h1, h2, h3, h4⟩
  · rw [h1]
    rw [decide_eq_true (Or.inl h2)] at hp
    exact ⟨fun _ => hp, fun c => absurd rfl c⟩
  · rw [h1, h3, h4]
    refine ⟨fun c => absurd c (by decide), fun _ => ⟨fun c => ⟨fun d => ?_, fun d => ⟨fun e => ?_, fun e => ?_⟩⟩, fun c => ?_⟩⟩
    · rw [decide_eq_false] at hp
      · exact hp
      · rintro (q | q | q)
        · exact h2 q
        · exact absurd q (Int32.not_lt.mpr c)
        · exact d q.1
    · rw [decide_eq_false] at hp
      · exact hp
      · rintro (q | q | q)
        · exact h2 q
        · exact absurd q (Int32.not_lt.mpr c)
        · exact absurd q.2 (Int32.not_lt.mpr e)
    · rw [decide_eq_true (Or.inr (Or.inr ⟨d, Int32.not_le.mp e⟩))] at hp; exact hp
    · rw [decide_eq_true (Or.inr (Or.inl (Int32.not_le.mp c)))] at hp; exact hp
/-- what a judged object does to those held -/
def eW (sc : Nat → Nat → Nat) (so we : Nat → Nat) (ky : Nat → Int32) (q : Nat) : RR := (nI q, nI (smS sc so we q), nI (smS sc so we q), ky q)
def hW (sc : Nat → Nat → Nat) (so we : Nat → Nat) (ky : Nat → Int32) (w : Nat) (bq : Nat → Bool) (q : Nat) (h : (Nat → RR) × Nat) : (Nat → RR) × Nat := if fitN sc so q = true ∧ bq q = true then hS1 w (eW sc so we ky q) h else h
theorem hW_le {sc : Nat → Nat → Nat} {so we : Nat → Nat} {ky : Nat → Int32} {w : Nat} {bq : Nat → Bool} {q : Nat} {h : (Nat → RR) × Nat} (hn : h.2 ≤ w) : (hW sc so we ky w bq q h).2 ≤ w := by
  unfold hW
  split
  · exact hS1_le hn
  · exact hn
theorem q_judge {post : em_M → Prop} {sc : Nat → Nat → Nat} {so we : Nat → Nat} {ky : Nat → Int32} {w q : Nat} {M0 M : em_M} {s : WS} (hS : cS sc M0) (hQ : cQ so we M0) (hK : ∀ o, o < 512 → M0 3 o = ky o) (hP : jP M0) (hw1 : 1 ≤ w) (hw : w ≤ 20) (hn : s.2.1.2 ≤ w) (hs : lS sc so s.1) (hq : q < 512) (H : cW sc so we w M0 s M)
    (hp : ∀ M', cW sc so we w M0 (dS sc s.1 q, hW sc so we ky w (fun q => bhB M0 (nI (smS sc so we q)) (nI q)) q s.2.1, s.2.2.1, s.2.2.2.1 + 1, s.2.2.2.2.1, s.2.2.2.2.2.1, s.2.2.2.2.2.2) M' → post M') : wp_LW_judge post (nI q) M := by
  simp only [wp_LW_judge, forall_eq]
  rw [H.2.2.2.2.2.2.1, nI_add s.2.2.2.1 1]
  have H1 : cW sc so we w M0 (s.1, s.2.1, s.2.2.1, s.2.2.2.1 + 1, s.2.2.2.2.1, s.2.2.2.2.2.1, s.2.2.2.2.2.2) (em_up M 48 6 (nI (s.2.2.2.1 + 1))) := by
    obtain ⟨a1, a2, a3, a4, a5, b1, b2, b3, b4, b5⟩ := H
    refine ⟨fun c hc => by rw [eu_ne (by omega)]; exact a1 c hc, ⟨by rw [eu_ne (by omega)]; exact a2.1, fun j hj => ?_⟩, by rw [eu_ne (by omega)]; exact a3, fun l hl ha => by rw [eu_ne (by omega)]; exact a4 l hl ha, fun l hl => by rw [eu_ne (by omega)]; exact a5 l hl, by rw [eu_j (by omega)]; exact b1, by rw [eu_eq], by rw [eu_j (by omega)]; exact b3, by rw [eu_j (by omega)]; exact b4, by rw [eu_j (by omega)]; exact b5⟩
    have e : rC (em_up M 48 6 (nI (s.2.2.2.1 + 1))) j = rC M j := by
      unfold rC
      simp (disch := omega) only [eu_ne]
    rw [e]; exact a2.2 j hj
  generalize em_up M 48 6 (nI (s.2.2.2.1 + 1)) = M1 at H1 ⊢
  refine q_sumOf (cW_S H1 hS) (cW_Q H1 hQ) hq (q_admits (cW_S H1 hS) (cW_Q H1 hQ) hq ?_)
  refine ejG (fun J => ∀ M', cW sc so we w M0 (s.1, hW sc so we ky w (fun q => bhB M0 (nI (smS sc so we q)) (nI q)) q s.2.1, s.2.2.1, s.2.2.2.1 + 1, s.2.2.2.2.1, s.2.2.2.2.2.1, s.2.2.2.2.2.2) M' → J M') (fun M2 H2 => ?_) (fun J hJ => ?_)
  · generalize hh : hW sc so we ky w (fun q => bhB M0 (nI (smS sc so we q)) (nI q)) q s.2.1 = h' at H2 hp
    refine lpM (by omega) (by omega) (fun k M' => cW sc so we w M0 (mix s.1 (dS sc s.1 q) k, h', s.2.2.1, s.2.2.2.1 + 1, s.2.2.2.2.1, s.2.2.2.2.2.1, s.2.2.2.2.2.2) M') (by rw [mix_0]; exact H2) (fun M' z => hp M' ?_) ?_
    · obtain ⟨a1, a2, a3, a4, a5⟩ := z
      refine ⟨a1, a2, a3, fun l hl ha => ?_, a5⟩
      rw [a4 l hl ha]
      show nI (cN (sc l) (mix s.1 (dS sc s.1 q) 12 l)) = _
      rw [mix_12 hl]
    intro I mu k M' hk _ z st
    have hm := lS_mix hs (lS_d hs hq) k
    have hle := (hs k hk).1
    refine q_standing (cW_S z hS) (cW_Q z hQ) hm z.2.2.2.1 hk ?_
    rw [mix_at]
    simp (disch := omega) only [em_join, nI_eq, n_in, nI_clamp]
    refine ⟨fun c => st _ ?_, fun c => ⟨hk, st _ ?_⟩⟩
    · rw [mix_same (show dS sc s.1 q k = s.1 k from if_neg c)]; exact z
    · obtain ⟨a1, a2, a3, a4, a5, b1, b2, b3, b4, b5⟩ := z
      have ek := a4 k hk (lS_a hs hk (by omega))
      simp only [mix_at] at ek
      simp only at a2 b1 b2 b3 b4 b5
      rw [ek, nI_add]
      refine ⟨fun c hc => by rw [eu_ne (by omega)]; exact a1 c hc, ⟨by rw [eu_ne (by omega)]; exact a2.1, fun j hj => ?_⟩, by rw [eu_ne (by omega)]; exact a3, fun l hl ha => ?_, fun l hl => by rw [eu_ne (by omega)]; exact a5 l hl, by rw [eu_ne (by omega)]; exact b1, by rw [eu_ne (by omega)]; exact b2, by rw [eu_ne (by omega)]; exact b3, by rw [eu_ne (by omega)]; exact b4, by rw [eu_ne (by omega)]; exact b5⟩
      · have e : rC (em_up M' 49 k (nI (cN (sc k) (s.1 k) + 1))) j = rC M' j := by
          unfold rC
          simp (disch := omega) only [eu_ne]
        rw [e]; exact a2.2 j hj
      · by_cases e : l = k
        · subst e
          show _ = nI (cN (sc l) (mix s.1 (dS sc s.1 q) (l + 1) l))
          rw [eu_eq, mix_eq]
          unfold dS
          rw [if_pos c, cN_ff (by omega), c]
          have hf := (hs l hl).2.2 (by omega)
          rw [c] at hf
          simp only [cN]
          rw [if_pos hf]
        · show _ = nI (cN (sc l) (mix s.1 (dS sc s.1 q) (k + 1) l))
          rw [eu_j e, mix_ne e]; exact a4 l hl ha
  · have f40 : M1 40 = M0 40 := H1.1 40 (by omega)
    have f52 : M1 52 = M0 52 := H1.1 52 (by omega)
    have eb : bhB M1 (nI (smS sc so we q)) (nI q) = bhB M0 (nI (smS sc so we q)) (nI q) := by unfold bhB; rw [f52]
    simp (disch := omega) only [bI_0, n_in, nI_clamp]
    refine ⟨fun c => hJ _ ?_, fun c => q_isBehind (jP_c hP (by rw [f40]) (by rw [f40]) (by rw [f40]) (by rw [f52]) (by rw [f52])) ?_⟩
    · have e : hW sc so we ky w (fun q => bhB M0 (nI (smS sc so we q)) (nI q)) q s.2.1 = s.2.1 := if_neg (fun z => by rw [c] at z; exact absurd z.1 (by decide))
      rw [e]; exact H1
    · rw [eb, bI_0]
      refine ⟨fun d => hJ _ ?_, fun d => ⟨hq, ?_⟩⟩
      · have e : hW sc so we ky w (fun q => bhB M0 (nI (smS sc so we q)) (nI q)) q s.2.1 = s.2.1 := if_neg (fun z => by
          have z2 := z.2
          simp only at z2
          rw [d] at z2; exact absurd z2 (by decide))
        rw [e]; exact H1
      · have e : hW sc so we ky w (fun q => bhB M0 (nI (smS sc so we q)) (nI q)) q s.2.1 = hS1 w (eW sc so we ky q) s.2.1 := if_pos ⟨by simpa using c, by simpa using d⟩
        rw [e] at hJ
        rw [H1.1 3 (by omega), hK q hq]
        refine q_offer H1.2.1 H1.2.2.1 hw1 hw hn (fun M2 z1 z2 z3 => hJ M2 ?_)
        obtain ⟨a1, a2, a3, a4, a5, b1, b2, b3, b4, b5⟩ := H1
        simp only at b1 b2 b3 b4 b5
        have f48 := z1 48 (by omega) (by omega) (by omega) (by omega) (by omega)
        refine ⟨fun c hc => by rw [z1 c (by omega) (by omega) (by omega) (by omega) (by omega)]; exact a1 c hc, z3, z2, fun l hl ha => by rw [z1 49 (by omega) (by omega) (by omega) (by omega) (by omega)]; exact a4 l hl ha, fun l hl => by rw [z1 50 (by omega) (by omega) (by omega) (by omega) (by omega)]; exact a5 l hl, by rw [f48]; exact b1, by rw [f48]; exact b2, by rw [f48]; exact b3, by rw [f48]; exact b4, by rw [f48]; exact b5⟩
theorem m_judge {post : em_M → Prop} {sc : Nat → Nat → Nat} {so we : Nat → Nat} {ky : Nat → Int32} {w q : Nat} {x : Int32} {M0 M : em_M} {s : WS} (hS : mS sc M0) (hQ : mQ so we M0) (hK : ∀ o, o < 512 → M0 54 o = ky o) (hw0 : M0 52 5 = nI w) (hw1 : 1 ≤ w) (hw : w ≤ 20) (hn : s.2.1.2 ≤ w) (hs : lS sc so s.1) (hq : q < 512) (H : mW so M0 x s M)
    (hp : ∀ M', mW so M0 x (dS sc s.1 q, hW sc so we ky w (fun q => bhB M0 (nI (smS sc so we q)) (nI q)) q s.2.1, s.2.2.1, s.2.2.2.1 + 1, s.2.2.2.2.1, s.2.2.2.2.2.1, s.2.2.2.2.2.2) M' → post M') : wp_MD_judge post (nI q) M := by
  simp only [wp_MD_judge, forall_eq]
  rw [H.2.2.2.2.2.2.2.1, nI_add s.2.2.2.1 1]
  have H1 : mW so M0 x (s.1, s.2.1, s.2.2.1, s.2.2.2.1 + 1, s.2.2.2.2.1, s.2.2.2.2.2.1, s.2.2.2.2.2.2) (em_up M 52 17 (nI (s.2.2.2.1 + 1))) := by
    obtain ⟨a1, a2, a3, a4, a5, a6, b1, b2, b3, b4, b5⟩ := H
    refine ⟨fun c c1 c2 c3 c4 c5 c6 => by rw [eu_ne c1]; exact a1 c c1 c2 c3 c4 c5 c6, fun j j1 j2 j3 j4 j5 => by rw [eu_j (by omega)]; exact a2 j j1 j2 j3 j4 j5, ⟨by rw [eu_j (by omega)]; exact a3.1, fun j hj => ?_⟩, by rw [eu_j (by omega)]; exact a4, by rw [eu_j (by omega)]; exact a5, fun l hl ha => by rw [eu_ne (by omega)]; exact a6 l hl ha, by rw [eu_j (by omega)]; exact b1, by rw [eu_eq], by rw [eu_j (by omega)]; exact b3, by rw [eu_j (by omega)]; exact b4, by rw [eu_j (by omega)]; exact b5⟩
    have e : rM (em_up M 52 17 (nI (s.2.2.2.1 + 1))) j = rM M j := by
      unfold rM
      simp (disch := omega) only [eu_ne]
    rw [e]; exact a3.2 j hj
  generalize em_up M 52 17 (nI (s.2.2.2.1 + 1)) = M1 at H1 ⊢
  refine m_sumOf (mW_S H1 hS) (mW_Q H1 hQ) hq ?_
  have f6 : M1 52 6 = M0 52 6 := H1.2.1 6 (by omega) (by omega) (by omega) (by omega) (by omega)
  have f7 : M1 52 7 = M0 52 7 := H1.2.1 7 (by omega) (by omega) (by omega) (by omega) (by omega)
  have f5 : M1 52 5 = M0 52 5 := H1.2.1 5 (by omega) (by omega) (by omega) (by omega) (by omega)
  rw [f6, f7]
  refine ejG (fun J => J (bI (bhB M0 (nI (smS sc so we q)) (nI q)))) ?_ (fun J hJ => ?_)
  · refine ejG (fun J => ∀ M', mW so M0 x (s.1, hW sc so we ky w (fun q => bhB M0 (nI (smS sc so we q)) (nI q)) q s.2.1, s.2.2.1, s.2.2.2.1 + 1, s.2.2.2.2.1, s.2.2.2.2.2.1, s.2.2.2.2.2.2) M' → J M') (fun M2 H2 => ?_) (fun J hJ => ?_)
    · generalize hh : hW sc so we ky w (fun q => bhB M0 (nI (smS sc so we q)) (nI q)) q s.2.1 = h' at H2 hp
      refine lpM (by omega) (by omega) (fun k M' => mW so M0 x (mix s.1 (dS sc s.1 q) k, h', s.2.2.1, s.2.2.2.1 + 1, s.2.2.2.2.1, s.2.2.2.2.2.1, s.2.2.2.2.2.2) M') (by rw [mix_0]; exact H2) (fun M' z => hp M' ?_) ?_
      · obtain ⟨a1, a2, a3, a4, a5, a6, a7⟩ := z
        refine ⟨a1, a2, a3, a4, a5, fun l hl ha => ?_, a7⟩
        rw [a6 l hl ha]
        show nI (mix s.1 (dS sc s.1 q) 12 l) = _
        rw [mix_12 hl]
      intro I mu k M' hk _ z st
      have hm := lS_mix hs (lS_d hs hq) k
      have hle := (hs k hk).1
      refine m_isLine (mW_Q z hQ) hm z.2.2.2.2.2.1 hk ?_
      rw [mix_at]
      simp (disch := omega) only [em_join, bI_0, n_in, nI_clamp]
      refine ⟨fun c => st _ ?_, fun c => ⟨hk, ?_⟩⟩
      · have c' : ¬ s.1 k < 512 := by simpa using c
        rw [mix_same (show dS sc s.1 q k = s.1 k from if_neg (by omega))]; exact z
      · have c' : s.1 k < 512 := by simpa using c
        obtain ⟨a1, a2, a3, a4, a5, a6, b1, b2, b3, b4, b5⟩ := id z
        have ek := a6 k hk (lS_a hs hk c')
        simp only [mix_at] at ek
        simp only at a3 b1 b2 b3 b4 b5
        rw [ek]
        simp (disch := omega) only [nI_eq, nI_add q 1]
        refine ⟨fun d => st _ ?_, fun d => m_firstFrom (mW_S z hS) hk (by omega) (fun r r1 r2 => st _ ?_)⟩
        · rw [mix_same (show dS sc s.1 q k = s.1 k from if_neg d)]; exact z
        · rw [ff_un (by omega) r2]
          refine ⟨fun c c1 c2 c3 c4 c5 c6 => by rw [eu_ne c6]; exact a1 c c1 c2 c3 c4 c5 c6, fun j j1 j2 j3 j4 j5 => by rw [eu_ne (by omega)]; exact a2 j j1 j2 j3 j4 j5, ⟨by rw [eu_ne (by omega)]; exact a3.1, fun j hj => ?_⟩, by rw [eu_ne (by omega)]; exact a4, by rw [eu_ne (by omega)]; exact a5, fun l hl ha => ?_, by rw [eu_ne (by omega)]; exact b1, by rw [eu_ne (by omega)]; exact b2, by rw [eu_ne (by omega)]; exact b3, by rw [eu_ne (by omega)]; exact b4, by rw [eu_ne (by omega)]; exact b5⟩
          · have e : rM (em_up M' 61 k (nI (ff (sc k) (q + 1)))) j = rM M' j := by
              unfold rM
              simp (disch := omega) only [eu_ne]
            rw [e]; exact a3.2 j hj
          · by_cases e : l = k
            · subst e
              show _ = nI (mix s.1 (dS sc s.1 q) (l + 1) l)
              rw [eu_eq, mix_eq]
              unfold dS
              rw [if_pos d]
            · show _ = nI (mix s.1 (dS sc s.1 q) (k + 1) l)
              rw [eu_j e, mix_ne e]; exact a6 l hl ha
    · rw [bI_0]
      refine ⟨fun d => hJ _ ?_, fun d => m_isFit (mW_S H1 hS) (mW_Q H1 hQ) hq ?_⟩
      · have e : hW sc so we ky w (fun q => bhB M0 (nI (smS sc so we q)) (nI q)) q s.2.1 = s.2.1 := if_neg (fun z => by
          have z2 := z.2
          simp only at z2
          rw [d] at z2; exact absurd z2 (by decide))
        rw [e]; exact H1
      · rw [bI_0]
        refine ⟨fun c => hJ _ ?_, fun c => ?_⟩
        · have e : hW sc so we ky w (fun q => bhB M0 (nI (smS sc so we q)) (nI q)) q s.2.1 = s.2.1 := if_neg (fun z => by rw [c] at z; exact absurd z.1 (by decide))
          rw [e]; exact H1
        · have e : hW sc so we ky w (fun q => bhB M0 (nI (smS sc so we q)) (nI q)) q s.2.1 = hS1 w (eW sc so we ky q) s.2.1 := if_pos ⟨by simpa using c, by simpa using d⟩
          rw [e] at hJ
          have f54 : M1 54 q = ky q := by rw [H1.1 54 (by omega) (by omega) (by omega) (by omega) (by omega) (by omega)]; exact hK q hq
          refine m_hold (mW_S H1 hS) (mW_Q H1 hQ) f54 hq H1.2.2.1 (w := w) (by rw [f5]; exact hw0) hw1 hw hn (fun M2 z1 z2 z3 => hJ M2 ?_)
          obtain ⟨a1, a2, a3, a4, a5, a6, b1, b2, b3, b4, b5⟩ := H1
          simp only at b1 b2 b3 b4 b5
          exact ⟨fun c c1 c2 c3 c4 c5 c6 => by rw [z1 c c1 c2 c3 c4 c5]; exact a1 c c1 c2 c3 c4 c5 c6, fun j j1 j2 j3 j4 j5 => by rw [z2 j j2]; exact a2 j j1 j2 j3 j4 j5, z3, by rw [z2 9 (by omega)]; exact a4, by rw [z2 10 (by omega)]; exact a5, fun l hl ha => by rw [z1 61 (by omega) (by omega) (by omega) (by omega) (by omega)]; exact a6 l hl ha, by rw [z2 16 (by omega)]; exact b1, by rw [z2 17 (by omega)]; exact b2, by rw [z2 18 (by omega)]; exact b3, by rw [z2 19 (by omega)]; exact b4, by rw [z2 20 (by omega)]; exact b5⟩
  · unfold bhB at hJ
    refine ejG (fun J2 => (M0 52 6 < 0 ∨ nI (smS sc so we q) < M0 52 6 ∨ (nI (smS sc so we q) = M0 52 6 ∧ M0 52 7 < nI q)) → J2) (fun c => ?_) (fun J2 hJ2 => ?_)
    · rw [decide_eq_true c] at hJ; exact hJ
    · refine ⟨fun c => hJ2 (Or.inl c), fun c => ⟨fun d => hJ2 (Or.inr (Or.inl d)), fun d => ?_⟩⟩
      refine ejG (fun J3 => ¬ (nI (smS sc so we q) = M0 52 6 ∧ M0 52 7 < nI q) → J3) (fun e => ?_) (fun J3 hJ3 => ⟨fun e => hJ3 (fun z => e z.1), fun e => ⟨fun g => hJ3 (fun z => absurd z.2 (Int32.not_lt.mpr g)), fun g => hJ2 (Or.inr (Or.inr ⟨e, Int32.not_le.mp g⟩))⟩⟩)
      rw [decide_eq_false] at hJ
      · exact hJ
      · rintro (z | z | z)
        · exact c z
        · exact d z
        · exact e z
