/-! THE REFERENCE's READERS, in numbers -/
def mS (sc : Nat → Nat → Nat) (M : em_M) : Prop := ∀ l, l < 12 → ∀ o, o < 512 → M 53 (512 * l + o) = nI (sc l o) ∧ sc l o ≤ 100
def mQ (so we : Nat → Nat) (M : em_M) : Prop := ∀ l, l < 12 → M 55 l = nI (so l) ∧ so l ≤ 3 ∧ M 56 l = nI (we l) ∧ 1 ≤ we l ∧ we l ≤ 9
def asked (so : Nat → Nat) (l : Nat) : Bool := so l == 1 || so l == 2
def okL (sc : Nat → Nat → Nat) (so : Nat → Nat) (o l : Nat) : Bool := if 0 < sc l o then so l != 3 else so l != 2
def hasL (sc : Nat → Nat → Nat) (so : Nat → Nat) (o l : Nat) : Bool := decide (0 < sc l o) && asked so l
def fitN (sc : Nat → Nat → Nat) (so : Nat → Nat) (o : Nat) : Bool := allN (okL sc so o) 12 && anyN (hasL sc so o) 12
def smS (sc : Nat → Nat → Nat) (so we : Nat → Nat) (o : Nat) : Nat := smN (fun l => if asked so l then we l * sc l o else 0) 12
def somewN (sc : Nat → Nat → Nat) (o : Nat) : Bool := anyN (fun l => decide (0 < sc l o)) 12
theorem m_at {post : Int32 → Prop} {sc : Nat → Nat → Nat} {M : em_M} {l o : Nat} (h : mS sc M) (hl : l < 12) (ho : o < 512) (hp : post (nI (sc l o))) : wp_MD_at post (nI l) (nI o) M := by
  unfold wp_MD_at
  rw [pk_mul, nI_add, nI_clamp (by omega), (h l hl o ho).1]
  exact ⟨vp_in_nI (by omega) (by omega), hp⟩
theorem m_in {post : Int32 → Prop} {x a b : Int32} {M : em_M} (h1 : a ≤ x → x ≤ b → post (nI 1)) (h0 : ¬ (a ≤ x ∧ x ≤ b) → post (nI 0)) : wp_MD_in post x a b M := by
  unfold wp_MD_in
  refine ⟨fun c => h0 (fun q => absurd c (Int32.not_lt.mpr q.1)), fun c => ⟨fun d => h0 (fun q => absurd d (Int32.not_lt.mpr q.2)), fun d => h1 (Int32.not_lt.mp c) (Int32.not_lt.mp d)⟩⟩
theorem m_size {post : Int32 → Prop} {sc : Nat → Nat → Nat} {M : em_M} {l : Nat} (h : mS sc M) (hl : l < 12) (hp : post (nI (cN (sc l) 512))) : wp_MD_size post (nI l) M := by
  unfold wp_MD_size
  refine lpA (by omega) (by omega) (fun k a => a = nI (cN (sc l) k)) rfl (fun a e => e ▸ hp) ?_
  rintro I mu k _ hk _ rfl st
  refine m_at h hl (by omega) ?_
  have hs := (h l hl k (by omega)).2
  have hc := cN_le (sc l) k
  simp (disch := omega) only [em_join, nz_le, forall_eq]
  refine ⟨fun c => st _ ?_, fun c => st _ ?_⟩
  · simp [cN, c]
  · rw [nI_add]
    simp [cN, show 0 < sc l k by omega]
theorem m_rank {post : Int32 → Prop} {sc : Nat → Nat → Nat} {M : em_M} {l o : Nat} (h : mS sc M) (hl : l < 12) (ho : o ≤ 512) (hp : post (nI (cN (sc l) o))) : wp_MD_rank post (nI l) (nI o) M := by
  unfold wp_MD_rank
  refine lpA (by omega) (by omega) (fun k a => a = nI (cN (sc l) k)) rfl (fun a e => e ▸ hp) ?_
  rintro I mu k _ hk _ rfl st
  refine m_at h hl (by omega) ?_
  have hs := (h l hl k (by omega)).2
  have hc := cN_le (sc l) k
  simp (disch := omega) only [em_join, nz_le, forall_eq]
  refine ⟨fun c => st _ ?_, fun c => st _ ?_⟩
  · simp [cN, c]
  · rw [nI_add]
    simp [cN, show 0 < sc l k by omega]
theorem m_isAsked {post : Int32 → Prop} {so we : Nat → Nat} {M : em_M} {l : Nat} (h : mQ so we M) (hl : l < 12) (hp : post (bI (asked so l))) : wp_MD_isAsked post (nI l) M := by
  unfold wp_MD_isAsked
  obtain ⟨h1, h2, -⟩ := h l hl
  simp (disch := omega) only [n_in, nI_clamp, h1, nI_eq]
  refine ⟨hl, fun c => ?_, fun c => ⟨fun d => ?_, fun d => ?_⟩⟩
  · simpa [asked, c, bI] using hp
  · simpa [asked, c, d, bI] using hp
  · simpa [asked, c, d, bI] using hp
theorem m_sumOf {post : Int32 → Prop} {sc : Nat → Nat → Nat} {so we : Nat → Nat} {M : em_M} {o : Nat} (h : mS sc M) (hq : mQ so we M) (ho : o < 512) (hp : post (nI (smS sc so we o))) : wp_MD_sumOf post (nI o) M := by
  unfold wp_MD_sumOf
  refine lpA (by omega) (by omega) (fun k a => a = nI (smN (fun l => if asked so l then we l * sc l o else 0) k)) rfl (fun a e => e ▸ hp) ?_
  rintro I mu k _ hk _ rfl st
  refine m_isAsked hq hk ?_
  simp (disch := omega) only [em_join, bI_0, forall_eq, n_in]
  obtain ⟨h1, h2, h3, h4, h5⟩ := hq k hk
  refine ⟨fun c => st _ ?_, fun c => ⟨hk, m_at h hk ho (st _ ?_)⟩⟩
  · simp [smN, c]
  · rw [nI_clamp (by omega), h3, pk_mul, nI_add]
    simp [smN, c]
theorem m_isFit {post : Int32 → Prop} {sc : Nat → Nat → Nat} {so we : Nat → Nat} {M : em_M} {o : Nat} (h : mS sc M) (hq : mQ so we M) (ho : o < 512) (hp : post (bI (fitN sc so o))) : wp_MD_isFit post (nI o) M := by
  unfold wp_MD_isFit
  refine lpA (by omega) (by omega) (fun k a => a = bI (anyN (hasL sc so o) k) ∧ allN (okL sc so o) k = true) ⟨rfl, rfl⟩ ?_ ?_
  · rintro _ ⟨rfl, h2⟩
    refine ⟨bI_01 _, ?_⟩
    simpa [fitN, h2] using hp
  · rintro I mu k _ hk _ ⟨rfl, h2⟩ st
    refine m_at h hk ho ?_
    obtain ⟨q1, q2, -⟩ := hq k hk
    have hs := (h k hk o ho).2
    have hbad : okL sc so o k = false → post (nI 0) := by
      intro hb
      have : fitN sc so o = false := by
        unfold fitN
        have : allN (okL sc so o) 12 = false := by
          rw [← Bool.not_eq_true, allN_iff]
          intro q
          rw [q k hk] at hb
          cases hb
        rw [this]; rfl
      rw [this] at hp
      exact hp
    have hgo : ∀ b : Bool, okL sc so o k = true → b = (anyN (hasL sc so o) k || hasL sc so o k) → I (bI b) (nI k + nI 1) ∧ mu (bI b) (nI k + nI 1) < mu (bI (anyN (hasL sc so o) k)) (nI k) := by
      intro b hb e
      refine st _ ⟨?_, ?_⟩
      · rw [e]; rfl
      · simp [allN, h2, hb]
    by_cases c : 0 < sc k o
    · simp (disch := omega) only [em_join, nz_le, nz_eq, forall_eq, n_in, nI_clamp, q1, nI_eq, bI_0]
      refine ⟨fun d => absurd d (by omega), fun _ => ⟨fun d => absurd d (by omega), fun _ => ⟨hk, fun d => hbad (by simp [okL, c, d]), fun d => ?_⟩⟩⟩
      have hok : okL sc so o k = true := by simp [okL, c, d]
      refine ⟨fun _ => ⟨fun e => hgo true hok (by simp at e; simp [e]), fun e => ⟨fun d => absurd d (by omega), fun _ => m_isAsked hq hk ?_⟩⟩, fun d => absurd d (by omega)⟩
      rw [bI_0]
      refine ⟨fun f => hgo false hok (by simp [e, hasL, f]), fun f => hgo true hok (by simp at f; simp [hasL, f, c])⟩
    · simp (disch := omega) only [em_join, nz_le, nz_eq, forall_eq, n_in, nI_clamp, q1, nI_eq, bI_0]
      refine ⟨fun _ => ⟨fun _ => ⟨fun d => absurd trivial d, fun _ => ⟨hk, fun d => ?_, fun d => hbad (by simp [okL, c, d])⟩⟩, fun d => absurd trivial d⟩, fun d => absurd (by omega) d⟩
      have hok : okL sc so o k = true := by simp [okL, c, d]
      refine ⟨fun e => hgo true hok (by simp at e; simp [e]), fun e => ⟨fun _ => hgo false hok (by simp [e, hasL, c]), fun d => absurd trivial d⟩⟩
theorem m_isSomewhere {post : Int32 → Prop} {sc : Nat → Nat → Nat} {M : em_M} {o : Nat} (h : mS sc M) (ho : o < 512) (hp : post (bI (somewN sc o))) : wp_MD_isSomewhere post (nI o) M := by
  unfold wp_MD_isSomewhere
  refine lpA (by omega) (by omega) (fun k a => a = bI (anyN (fun l => decide (0 < sc l o)) k)) rfl (fun a e => e ▸ ⟨bI_01 _, hp⟩) ?_
  rintro I mu k _ hk _ rfl st
  have hs := (h k hk o ho).2
  simp (disch := omega) only [em_join, bI_0, forall_eq]
  refine ⟨fun c => st (bI true) ?_, fun c => m_at h hk ho ?_⟩
  · simp at c
    simp [anyN, c]
  · simp (disch := omega) only [nz_le]
    refine ⟨fun d => st (bI false) ?_, fun d => st (bI true) ?_⟩
    · simp [anyN, c, d]
    · simp [anyN, show 0 < sc k o by omega]
/-- r is the first entry from o on -/
def isFF (f : Nat → Nat) (o r : Nat) : Prop := o ≤ r ∧ (∀ t, o ≤ t → t < r → f t = 0) ∧ ((r = 512) ∨ (r < 512 ∧ 0 < f r))
theorem isFF_un {f : Nat → Nat} {o r r' : Nat} (h : isFF f o r) (h' : isFF f o r') : r = r' := by
  obtain ⟨h1, h2, h3⟩ := h
  obtain ⟨g1, g2, g3⟩ := h'
  rcases Nat.lt_trichotomy r r' with q | q | q
  · have := g2 r h1 q
    rcases h3 with h3 | h3 <;> rcases g3 with g3 | g3 <;> omega
  · exact q
  · have := h2 r' g1 q
    rcases h3 with h3 | h3 <;> rcases g3 with g3 | g3 <;> omega
theorem m_firstFrom {post : Int32 → Prop} {sc : Nat → Nat → Nat} {M : em_M} {l o : Nat} (h : mS sc M) (hl : l < 12) (ho : o ≤ 512) (hp : ∀ r, r ≤ 512 → isFF (sc l) o r → post (nI r)) : wp_MD_firstFrom post (nI l) (nI o) M := by
  unfold wp_MD_firstFrom
  refine ⟨fun x => ∃ k, o ≤ k ∧ k ≤ 512 ∧ x = nI k ∧ ∀ t, o ≤ t → t < k → sc l t = 0, fun x => 512 - x.toNatClampNeg, ⟨o, Nat.le_refl _, ho, rfl, fun t h1 h2 => absurd h2 (by omega)⟩, ?_⟩
  rintro _ ⟨k, h1, h2, rfl, h3⟩
  simp (disch := omega) only [nI_leI]
  refine ⟨fun c => hp k h2 ⟨h1, h3, Or.inl (by omega)⟩, fun c => m_at h hl (by omega) ?_⟩
  have hs := (h l hl k (by omega)).2
  simp (disch := omega) only [nz_eq, forall_eq, nI_add]
  refine ⟨fun d => hp k h2 ⟨h1, h3, Or.inr ⟨by omega, by omega⟩⟩, fun d => ⟨⟨k + 1, by omega, by omega, rfl, fun t t1 t2 => ?_⟩, ?_⟩⟩
  · by_cases e : t = k
    · rw [e]; exact d
    · exact h3 t t1 (by omega)
  · simp (disch := omega) only [nI_clamp]
    omega
theorem m_topOf {post : Int32 → Prop} {sc : Nat → Nat → Nat} {M : em_M} {l n m : Nat} (h : mS sc M) (hl : l < 12) (hn : n < 2 ^ 30) (hm : m < 2 ^ 30) (hp : post (nI (tpN (sc l) n m 512))) : wp_MD_topOf post (nI l) (nI n) (nI m) M := by
  unfold wp_MD_topOf
  have hT : ∀ k, k ≤ 512 → tpN (sc l) n m k ≤ 100 := by
    intro k
    induction k with
    | zero => intro _; simp [tpN]
    | succ k ih =>
      intro hk
      have := (h l hl k (by omega)).2
      have := ih (by omega)
      simp only [tpN]
      split <;> omega
  refine lpB (by omega) (by omega) (fun k a b => a = nI (tpN (sc l) n m k) ∧ b = nI (cN (sc l) k)) ⟨rfl, rfl⟩ (fun a b e => e.1 ▸ hp) ?_
  rintro I mu k _ _ hk _ ⟨rfl, rfl⟩ st
  refine m_at h hl hk ?_
  have hs := (h l hl k hk).2
  have hc := cN_le (sc l) k
  have ht := hT k (by omega)
  simp (disch := omega) only [em_join, nz_le, forall_eq, nI_ltI, nI_leI]
  refine ⟨fun c => st _ _ ⟨?_, ?_⟩, fun c => ?_⟩
  · simp [tpN, c]
  · simp [cN, c]
  · have e2 : nI (cN (sc l) k) + nI 1 = nI (cN (sc l) (k + 1)) := by
      rw [nI_add]; simp [cN, show 0 < sc l k by omega]
    have e1 : ∀ z : Nat, tpN (sc l) n m (k + 1) = z → I (nI z) (nI (cN (sc l) k) + nI 1) (nI k + nI 1) ∧ mu (nI z) (nI (cN (sc l) k) + nI 1) (nI k + nI 1) < mu (nI (tpN (sc l) n m k)) (nI (cN (sc l) k)) (nI k) := by
      intro z hz
      exact st _ _ ⟨by rw [hz], e2⟩
    refine ⟨fun d => e1 _ ?_, fun d => ⟨fun g => e1 _ ?_, fun g => m_at h hl hk ?_⟩⟩
    · simp only [tpN]; rw [if_neg (by omega)]
    · simp only [tpN]; rw [if_neg (by omega)]
    · simp (disch := omega) only [nI_leI]
      refine ⟨fun f => e1 _ ?_, fun f => m_at h hl hk (e1 _ ?_)⟩
      · simp only [tpN]; rw [if_neg (by omega)]
      · simp only [tpN]; rw [if_pos (by omega)]
