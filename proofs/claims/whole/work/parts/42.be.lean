/-! THE CLASS's READERS, in numbers -/
def cS (sc : Nat → Nat → Nat) (M : em_M) : Prop := ∀ l, l < 12 → M (4 + 3 * l) 2 = nI (cN (sc l) 512) ∧ cN (sc l) 512 ≤ 120 ∧ (∀ o, o < 512 → M (6 + 3 * l) o = nI (sc l o) ∧ sc l o ≤ 100) ∧ (∀ o, o < 512 → 0 < sc l o → M (5 + 3 * l) (cN (sc l) o) = nI o)
def cQ (so we : Nat → Nat) (M : em_M) : Prop := ∀ l, l < 12 → M 41 l = nI (so l) ∧ so l ≤ 3 ∧ M 42 l = nI (we l) ∧ 1 ≤ we l ∧ we l ≤ 9
theorem q_isWithin {post : Int32 → Prop} {x a b : Int32} {M : em_M} (h1 : a ≤ x → x ≤ b → post (nI 1)) (h0 : ¬ (a ≤ x ∧ x ≤ b) → post (nI 0)) : wp_BE_isWithin post x a b M := by
  unfold wp_BE_isWithin
  refine ⟨fun c => h0 (fun q => absurd c (Int32.not_lt.mpr q.1)), fun c => ⟨fun d => h0 (fun q => absurd d (Int32.not_lt.mpr q.2)), fun d => h1 (Int32.not_lt.mp c) (Int32.not_lt.mp d)⟩⟩
theorem q_isList {post : Int32 → Prop} {x : Int32} {M : em_M} (h1 : nI 0 ≤ x → x ≤ nI 11 → post (nI 1)) (h0 : ¬ (nI 0 ≤ x ∧ x ≤ nI 11) → post (nI 0)) : wp_BE_isList post x M := by
  unfold wp_BE_isList
  exact q_isWithin (fun a b => ⟨Or.inr rfl, h1 a b⟩) (fun a => ⟨Or.inl rfl, h0 a⟩)
theorem q_isObject {post : Int32 → Prop} {x : Int32} {M : em_M} (h1 : nI 0 ≤ x → x ≤ nI 511 → post (nI 1)) (h0 : ¬ (nI 0 ≤ x ∧ x ≤ nI 511) → post (nI 0)) : wp_BE_isObject post x M := by
  unfold wp_BE_isObject
  exact q_isWithin (fun a b => ⟨Or.inr rfl, h1 a b⟩) (fun a => ⟨Or.inl rfl, h0 a⟩)
theorem q_firstFrom {post : Int32 → Prop} {sc : Nat → Nat → Nat} {M : em_M} {l s0 x : Nat} (h : cS sc M) (hl : l < 12) (hs : s0 ≤ cN (sc l) 512) (hx : x ≤ 512) (hp : post (nI (max s0 (cN (sc l) x)))) : wp_SL_firstFrom post l (nI s0) (nI x) M := by
  unfold wp_SL_firstFrom
  obtain ⟨h1, h2, h3, h4⟩ := h l hl
  have hm : cN (sc l) x ≤ cN (sc l) 512 := cN_mono hx
  rw [h1]
  refine ⟨fun y => ∃ k, s0 ≤ k ∧ k ≤ max s0 (cN (sc l) x) ∧ y = nI k, fun y => 512 - y.toNatClampNeg, ⟨s0, Nat.le_refl _, by omega, rfl⟩, ?_⟩
  rintro _ ⟨k, k1, k2, rfl⟩
  simp (disch := omega) only [nI_leI, n_in, nI_clamp, forall_eq, nI_add]
  refine ⟨fun c => ?_, fun c => ⟨by omega, ?_⟩⟩
  · rw [show k = max s0 (cN (sc l) x) by omega]; exact hp
  · obtain ⟨o, o1, o2, o3⟩ := cN_ex (f := sc l) (j := k) (n := 512) (by omega)
    have e := h4 o o1 o2
    rw [o3] at e
    rw [e]
    simp (disch := omega) only [nI_leI]
    refine ⟨fun d => ?_, fun d => ⟨⟨k + 1, by omega, ?_, rfl⟩, by omega⟩⟩
    · have : cN (sc l) x ≤ cN (sc l) o := cN_mono d
      rw [show k = max s0 (cN (sc l) x) by omega]; exact hp
    · have : cN (sc l) o < cN (sc l) x := cN_lt (by omega) o2
      omega
theorem q_objectAt {post : Int32 → Prop} {sc : Nat → Nat → Nat} {M : em_M} {l i : Nat} (h : cS sc M) (hl : l < 12) (hi : i < 2 ^ 31) (h0 : cN (sc l) 512 ≤ i → post (nI 512)) (h1 : ∀ o, o < 512 → 0 < sc l o → cN (sc l) o = i → post (nI o)) : wp_SL_objectAt post l (nI i) M := by
  unfold wp_SL_objectAt
  obtain ⟨g1, g2, g3, g4⟩ := h l hl
  rw [g1]
  simp (disch := omega) only [nz_lt, nI_leI, n_in, nI_clamp]
  refine ⟨fun c => c.elim, fun _ => ⟨h0, fun c => ⟨by omega, ?_⟩⟩⟩
  obtain ⟨o, o1, o2, o3⟩ := cN_ex (f := sc l) (j := i) (n := 512) (by omega)
  have e := g4 o o1 o2
  rw [o3] at e
  rw [e]
  exact h1 o o1 o2 o3
theorem tpN_le {f : Nat → Nat} {n m v : Nat} : ∀ {k : Nat}, (∀ o, o < k → 0 < f o → n ≤ cN f o → cN f o < m → f o ≤ v) → tpN f n m k ≤ v
  | 0, _ => Nat.zero_le _
  | k + 1, h => by
    have ih := tpN_le (k := k) (fun o ho => h o (by omega))
    simp only [tpN]
    split
    · next c => exact h k (by omega) c.1 c.2.1 c.2.2.1
    · exact ih
theorem tpN_ge {f : Nat → Nat} {n m o : Nat} (hf : 0 < f o) (h1 : n ≤ cN f o) (h2 : cN f o < m) : ∀ {k : Nat}, o < k → f o ≤ tpN f n m k
  | 0, h => absurd h (by omega)
  | k + 1, h => by
    simp only [tpN]
    by_cases e : o = k
    · subst e
      split <;> omega
    · have ih := tpN_ge hf h1 h2 (k := k) (by omega)
      split <;> omega
theorem tpN_step {f : Nat → Nat} {a o : Nat} (ho : o < 512) (hf : 0 < f o) (ha : a ≤ cN f o) : tpN f a (cN f o + 1) 512 = max (tpN f a (cN f o) 512) (f o) := by
  apply Nat.le_antisymm
  · apply tpN_le
    intro t t1 t2 t3 t4
    by_cases e : cN f t = cN f o
    · rw [cN_inj t2 hf e]; omega
    · have := tpN_ge (f := f) (n := a) (m := cN f o) (o := t) t2 t3 (by omega) (k := 512) t1
      omega
  · have e1 : tpN f a (cN f o) 512 ≤ tpN f a (cN f o + 1) 512 := by
      apply tpN_le
      intro t t1 t2 t3 t4
      exact tpN_ge t2 t3 (by omega) t1
    have e2 := tpN_ge (f := f) (n := a) (m := cN f o + 1) (o := o) hf ha (by omega) (k := 512) ho
    omega
theorem tpN_0 {f : Nat → Nat} {a m k : Nat} (h : m ≤ a) : tpN f a m k = 0 := Nat.le_zero.mp (tpN_le (fun o _ _ h1 h2 => absurd h2 (by omega)))
/-- ranks beyond the size don't matter -/
theorem tpN_cut {f : Nat → Nat} {a m : Nat} : tpN f a (min m (cN f 512)) 512 = tpN f a m 512 := by
  apply Nat.le_antisymm
  · exact tpN_le (fun o h1 h2 h3 h4 => tpN_ge h2 h3 (by omega) h1)
  · refine tpN_le (fun o h1 h2 h3 h4 => tpN_ge h2 h3 ?_ h1)
    have := cN_lt (f := f) (a := o) (b := 512) h1 h2
    omega
theorem q_greatestBetween {post : Int32 → Prop} {sc : Nat → Nat → Nat} {M : em_M} {l a b : Nat} (h : cS sc M) (hl : l < 12) (hab : a ≤ b) (hb : b ≤ cN (sc l) 512) (hp : post (nI (tpN (sc l) a b 512))) : wp_SL_greatestBetween post l (nI a) (nI b) M := by
  unfold wp_SL_greatestBetween
  obtain ⟨g1, g2, g3, g4⟩ := h l hl
  refine lpA (by omega) hab (fun k z => z = nI (tpN (sc l) a k 512)) (by rw [tpN_0 (Nat.le_refl _)]) (fun z e => e ▸ hp) ?_
  rintro I mu k _ hk ha rfl st
  obtain ⟨o, o1, o2, o3⟩ := cN_ex (f := sc l) (j := k) (n := 512) (by omega)
  have e := g4 o o1 o2
  rw [o3] at e
  have hT : tpN (sc l) a k 512 ≤ 100 := tpN_le (fun t h1 _ _ _ => (g3 t h1).2)
  have hs := (g3 o o1).2
  simp (disch := omega) only [n_in, nI_clamp, e, forall_eq, (g3 o o1).1, nI_ltI]
  refine ⟨by omega, o1, st _ ?_⟩
  have e2 := tpN_step (a := a) o1 o2 (by omega)
  rw [o3] at e2
  rw [e2]
  split
  · rw [Nat.max_eq_right (by omega)]
  · rw [Nat.max_eq_left (by omega)]
theorem q_greatest {post : Int32 → Prop} {sc : Nat → Nat → Nat} {M : em_M} {l : Nat} (h : cS sc M) (hl : l < 12) (hp : post (nI (tpN (sc l) 0 120 512))) : wp_SL_greatest post l M := by
  unfold wp_SL_greatest
  obtain ⟨g1, g2, g3, g4⟩ := id h l hl
  rw [g1]
  refine q_greatestBetween h hl (Nat.zero_le _) (Nat.le_refl _) ?_
  have e := tpN_cut (f := sc l) (a := 0) (m := 120)
  rw [Nat.min_eq_right g2] at e
  rw [e]; exact hp
theorem q_blockEnd {post : Int32 → Prop} {sc : Nat → Nat → Nat} {M : em_M} {l k : Nat} (h : cS sc M) (hl : l < 12) (hk : k < 2 ^ 20) (hp : post (nI (min (8 * k + 8) (cN (sc l) 512)))) : wp_SL_blockEnd post l (nI k) M := by
  unfold wp_SL_blockEnd
  obtain ⟨g1, g2, g3, g4⟩ := h l hl
  rw [g1, pk_mul, nI_add]
  have e : (if nI (cN (sc l) 512) < nI (k * 8 + 8) then nI (cN (sc l) 512) else nI (k * 8 + 8)) = nI (min (8 * k + 8) (cN (sc l) 512)) := by
    simp (disch := omega) only [nI_ltI]
    split
    · rw [Nat.min_eq_right (by omega)]
    · rw [Nat.min_eq_left (by omega), Nat.mul_comm]
  rw [e]; exact hp
theorem q_greatestOfBlock {post : Int32 → Prop} {sc : Nat → Nat → Nat} {M : em_M} {l k : Nat} (h : cS sc M) (hl : l < 12) (hk : k < 2 ^ 20) (hb : 8 * k < cN (sc l) 512) (hp : post (nI (tpN (sc l) (8 * k) (8 * k + 8) 512))) : wp_SL_greatestOfBlock post l (nI k) M := by
  unfold wp_SL_greatestOfBlock
  refine q_blockEnd h hl hk ?_
  rw [pk_mul, Nat.mul_comm]
  refine q_greatestBetween h hl (by omega) (by omega) ?_
  rw [tpN_cut]; exact hp
/-- the last entry of a block -/
theorem q_lastOfBlock {post : Int32 → Prop} {sc : Nat → Nat → Nat} {M : em_M} {l k : Nat} (h : cS sc M) (hl : l < 12) (hk : k < 2 ^ 20) (hb : 8 * k < cN (sc l) 512) (hp : ∀ o, o < 512 → 0 < sc l o → cN (sc l) o + 1 = min (8 * k + 8) (cN (sc l) 512) → post (nI o)) : wp_SL_lastOfBlock post l (nI k) M := by
  unfold wp_SL_lastOfBlock
  refine q_blockEnd h hl hk ?_
  rw [pk_sub (by omega)]
  refine q_objectAt h hl (by have := cN_le (sc l) 512; omega) (fun c => absurd c (by omega)) (fun o o1 o2 o3 => hp o o1 o2 (by omega))
theorem q_blocks {post : Int32 → Prop} {sc : Nat → Nat → Nat} {M : em_M} {l : Nat} (h : cS sc M) (hl : l < 12) (hp : post (nI ((cN (sc l) 512 + 7) / 8))) : wp_SL_blocks post l M := by
  unfold wp_SL_blocks
  obtain ⟨g1, g2, g3, g4⟩ := h l hl
  rw [g1, nI_add, pk_sub (by omega), pk_div (by omega) (by omega) (by omega)]
  exact hp
theorem q_has {post : Int32 → Prop} {sc : Nat → Nat → Nat} {M : em_M} {o : Nat} (h : cS sc M) (ho : o < 512) (hp : post (bI (somewN sc o))) : wp_SF_has post (nI o) M := by
  unfold wp_SF_has
  refine ⟨fun x => ∃ k, k ≤ 12 ∧ x = nI k ∧ anyN (fun l => decide (0 < sc l o)) k = false, fun x => 12 - x.toNatClampNeg, ⟨0, by omega, rfl, rfl⟩, ?_⟩
  rintro _ ⟨k, k1, rfl, k2⟩
  simp (disch := omega) only [nI_leI, n_in, nI_clamp, forall_eq, nI_add]
  refine ⟨fun c => ?_, fun c => ⟨by omega, ho, ?_⟩⟩
  · have e : k = 12 := by omega
    subst e
    unfold somewN at hp
    rw [k2] at hp
    exact hp
  · obtain ⟨g1, g2, g3, g4⟩ := h k (by omega)
    have hs := (g3 o ho).2
    rw [(g3 o ho).1]
    simp (disch := omega) only [nz_le]
    refine ⟨fun d => ⟨⟨k + 1, by omega, rfl, by simp [anyN, k2, d]⟩, by omega⟩, fun d => ?_⟩
    have e : somewN sc o = true := by
      unfold somewN
      rw [anyN_iff]
      exact ⟨k, by omega, by simp; omega⟩
    rw [e] at hp
    exact hp
theorem q_asksFor {post : Int32 → Prop} {so we : Nat → Nat} {M : em_M} {l : Nat} (h : cQ so we M) (hl : l < 12) (hp : post (bI (asked so l))) : wp_QU_asksFor post (nI l) M := by
  unfold wp_QU_asksFor
  obtain ⟨h1, h2, -⟩ := h l hl
  simp (disch := omega) only [n_in, nI_clamp, h1, nI_eq]
  refine ⟨hl, fun c => ?_, fun c => ⟨fun d => ?_, fun d => ?_⟩⟩
  · simpa [asked, c, bI] using hp
  · simpa [asked, c, d, bI] using hp
  · simpa [asked, c, d, bI] using hp
theorem q_sumOf {post : Int32 → Prop} {sc : Nat → Nat → Nat} {so we : Nat → Nat} {M : em_M} {o : Nat} (h : cS sc M) (hq : cQ so we M) (ho : o < 512) (hp : post (nI (smS sc so we o))) : wp_QU_sumOf post (nI o) M := by
  unfold wp_QU_sumOf
  refine lpA (by omega) (by omega) (fun k a => a = nI (smN (fun l => if asked so l then we l * sc l o else 0) k)) rfl (fun a e => e ▸ hp) ?_
  rintro I mu k _ hk _ rfl st
  refine q_asksFor hq hk ?_
  obtain ⟨h1, h2, h3, h4, h5⟩ := hq k hk
  obtain ⟨g1, g2, g3, g4⟩ := h k hk
  simp (disch := omega) only [em_join, bI_0, forall_eq, n_in, nI_clamp]
  refine ⟨fun c => st _ ?_, fun c => ⟨hk, ho, st _ ?_⟩⟩
  · simp [smN, c]
  · rw [h3, (g3 o ho).1, pk_mul, nI_add]
    simp [smN, c]
/-- how many of the first n -/
def cnN (p : Nat → Bool) : Nat → Nat
  | 0 => 0
  | n + 1 => cnN p n + (if p n then 1 else 0)
theorem cnN_le (p : Nat → Bool) : ∀ n, cnN p n ≤ n
  | 0 => Nat.le_refl 0
  | n + 1 => by
    have := cnN_le p n
    simp only [cnN]
    split <;> omega
theorem q_listsOfSort {post : Int32 → Prop} {so we : Nat → Nat} {M : em_M} {v : Nat} (hq : cQ so we M) (hv : v ≤ 3) (hp : post (nI (cnN (fun l => so l == v) 12))) : wp_QU_listsOfSort post (nI v) M := by
  unfold wp_QU_listsOfSort
  refine lpA (by omega) (by omega) (fun k a => a = nI (cnN (fun l => so l == v) k)) rfl (fun a e => e ▸ hp) ?_
  rintro I mu k _ hk _ rfl st
  obtain ⟨h1, h2, h3, h4, h5⟩ := hq k hk
  simp (disch := omega) only [em_join, forall_eq, n_in, nI_clamp, h1, nI_eq]
  refine ⟨hk, fun c => st _ ?_, fun c => st _ ?_⟩
  · simp [cnN, c]
  · rw [nI_add]; simp [cnN, c]
theorem q_objectsInSomeList {post : Int32 → Prop} {sc : Nat → Nat → Nat} {M : em_M} (h : cS sc M) (hp : post (nI (cnN (somewN sc) 512))) : wp_SF_objectsInSomeList post M := by
  unfold wp_SF_objectsInSomeList
  refine lpA (by omega) (by omega) (fun k a => a = nI (cnN (somewN sc) k)) rfl (fun a e => e ▸ hp) ?_
  rintro I mu k _ hk _ rfl st
  refine q_has h hk ?_
  simp (disch := omega) only [em_join, forall_eq, bI_0]
  refine ⟨fun c => st _ ?_, fun c => st _ ?_⟩
  · simp [cnN, c]
  · rw [nI_add]; simp at c; simp [cnN, c]
theorem q_admits {post : Int32 → Prop} {sc : Nat → Nat → Nat} {so we : Nat → Nat} {M : em_M} {o : Nat} (h : cS sc M) (hq : cQ so we M) (ho : o < 512) (hp : post (bI (fitN sc so o))) : wp_QU_admits post (nI o) M := by
  unfold wp_QU_admits
  refine lpA (by omega) (by omega) (fun k a => a = bI (anyN (hasL sc so o) k) ∧ allN (okL sc so o) k = true) ⟨rfl, rfl⟩ ?_ ?_
  · rintro _ ⟨rfl, h2⟩
    refine ⟨bI_01 _, ?_⟩
    simpa [fitN, h2] using hp
  · rintro I mu k _ hk _ ⟨rfl, h2⟩ st
    obtain ⟨q1, q2, -⟩ := hq k hk
    obtain ⟨g1, g2, g3, g4⟩ := h k hk
    have hs := (g3 o ho).2
    have hbad : okL sc so o k = false → post (nI 0) := by
      intro hb
      have : fitN sc so o = false := by
        unfold fitN
        have : allN (okL sc so o) 12 = false := by
          rw [← Bool.not_eq_true, allN_iff]
          intro q
          rw [q k hk] at hb
          cases hb
        rw [this]; rfl
      rw [this] at hp
      exact hp
    have hgo : ∀ b : Bool, okL sc so o k = true → b = (anyN (hasL sc so o) k || hasL sc so o k) → I (bI b) (nI k + nI 1) ∧ mu (bI b) (nI k + nI 1) < mu (bI (anyN (hasL sc so o) k)) (nI k) := by
      intro b hb e
      refine st _ ⟨?_, ?_⟩
      · rw [e]; rfl
      · simp [allN, h2, hb]
    simp (disch := omega) only [n_in, nI_clamp, (g3 o ho).1]
    refine ⟨hk, ho, ?_⟩
    by_cases c : 0 < sc k o
    · simp (disch := omega) only [em_join, nz_le, nz_eq, forall_eq, q1, nI_eq, bI_0]
      refine ⟨fun d => absurd d (by omega), fun _ => ⟨fun d => absurd d (by omega), fun _ => ⟨fun d => ?_, fun d => hbad (by simp [okL, c, d])⟩⟩⟩
      have hok : okL sc so o k = true := by simp [okL, c, d]
      refine ⟨fun e => hgo true hok (by simp at e; simp [e]), fun e => ⟨fun d => absurd d (by omega), fun _ => q_asksFor hq hk ?_⟩⟩
      rw [bI_0]
      refine ⟨fun f => hgo false hok (by simp [e, hasL, f]), fun f => hgo true hok (by simp at f; simp [hasL, f, c])⟩
    · simp (disch := omega) only [em_join, nz_le, nz_eq, forall_eq, q1, nI_eq, bI_0]
      refine ⟨fun _ => ⟨fun _ => ⟨fun d => ?_, fun d => hbad (by simp [okL, c, d])⟩, fun d => absurd trivial d⟩, fun d => absurd (by omega) d⟩
      have hok : okL sc so o k = true := by simp [okL, c, d]
      refine ⟨fun e => hgo true hok (by simp at e; simp [e]), fun e => ⟨fun _ => hgo false hok (by simp [e, hasL, c]), fun d => absurd trivial d⟩⟩
