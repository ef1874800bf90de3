/-! ENTRY and LOSE -/
def sU (sc : Nat → Nat → Nat) (i v s : Nat) : Nat → Nat → Nat := fun l o => if l = i ∧ o = v then s else sc l o
theorem sU_eq {sc : Nat → Nat → Nat} {i v s : Nat} : sU sc i v s i v = s := by simp [sU]
theorem sU_o {sc : Nat → Nat → Nat} {i v s l o : Nat} (h : l ≠ i ∨ o ≠ v) : sU sc i v s l o = sc l o := by
  unfold sU
  rw [if_neg (by omega)]
theorem sU_l {sc : Nat → Nat → Nat} {i v s l : Nat} (h : l ≠ i) : sU sc i v s l = sc l := by
  funext o
  exact sU_o (Or.inl h)
theorem cN_up {sc : Nat → Nat → Nat} {i v s : Nat} : ∀ o, cN (sU sc i v s i) o + (if v < o ∧ 0 < sc i v then 1 else 0) = cN (sc i) o + (if v < o ∧ 0 < s then 1 else 0)
  | 0 => by simp [cN]
  | o + 1 => by
    have ih := cN_up (sc := sc) (i := i) (v := v) (s := s) o
    simp only [cN]
    by_cases e : o = v
    · subst e
      rw [sU_eq]
      simp only [Nat.lt_irrefl, false_and, if_false] at ih
      simp only [Nat.lt_succ_self, true_and]
      omega
    · rw [sU_o (Or.inr e)]
      have e2 : (v < o + 1 ∧ 0 < sc i v) ↔ (v < o ∧ 0 < sc i v) := by omega
      have e3 : (v < o + 1 ∧ 0 < s) ↔ (v < o ∧ 0 < s) := by omega
      simp only [e2, e3]
      omega
theorem q_put {post : Int32 → em_M → Prop} {sc : Nat → Nat → Nat} {M : em_M} {i v s : Nat} (h : cS sc M) (hi : i < 12) (hv : v < 512) (hs1 : 1 ≤ s) (hs2 : s ≤ 100) (hf : sc i v = 0 → 120 ≤ cN (sc i) 512 → post (nI 0) M)
    (hg : ∀ M', (∀ k, k ≠ 4 + 3 * i → k ≠ 5 + 3 * i → k ≠ 6 + 3 * i → M' k = M k) → cS (sU sc i v s) M' → (sc i v = 0 → cN (sc i) 512 < 120) → post (nI 1) M') : wp_SL_put post i (nI v) (nI s) M := by
  obtain ⟨g1, g2, g3, g4⟩ := id h i hi
  have hsc := (g3 v hv).2
  simp (disch := omega) only [wp_SL_put, n_in, nI_clamp, forall_eq, (g3 v hv).1, nz_eq, g1, nI_ltI]
  have oth : ∀ M' : em_M, (∀ k, k ≠ 4 + 3 * i → k ≠ 5 + 3 * i → k ≠ 6 + 3 * i → M' k = M k) → ∀ l, l < 12 → l ≠ i → M' (4 + 3 * l) 2 = nI (cN (sU sc i v s l) 512) ∧ cN (sU sc i v s l) 512 ≤ 120 ∧ (∀ o, o < 512 → M' (6 + 3 * l) o = nI (sU sc i v s l o) ∧ sU sc i v s l o ≤ 100) ∧ (∀ o, o < 512 → 0 < sU sc i v s l o → M' (5 + 3 * l) (cN (sU sc i v s l) o) = nI o) := by
    intro M' hM l hl hli
    rw [sU_l hli, hM (4 + 3 * l) (by omega) (by omega) (by omega), hM (5 + 3 * l) (by omega) (by omega) (by omega), hM (6 + 3 * l) (by omega) (by omega) (by omega)]
    exact h l hl
  refine ⟨hv, fun c => ?_, fun c => ⟨fun d => ?_, fun d => hf c (by omega)⟩⟩
  · refine hg _ (fun k k1 k2 k3 => eu_ne k3) (fun l hl => ?_) (fun q => absurd q c)
    by_cases e : l = i
    · subst e
      have ec : ∀ o, cN (sU sc l v s l) o = cN (sc l) o := by
        intro o
        have := cN_up (sc := sc) (i := l) (v := v) (s := s) o
        have e2 : (v < o ∧ 0 < sc l v) ↔ (v < o ∧ 0 < s) := by omega
        simp only [e2] at this
        omega
      simp (disch := omega) only [eu_ne, ec]
      refine ⟨g1, g2, fun o ho => ?_, fun o ho hp => ?_⟩
      · by_cases q : o = v
        · subst q
          rw [eu_eq, sU_eq]
          exact ⟨rfl, hs2⟩
        · rw [eu_j q, sU_o (Or.inr q)]
          exact g3 o ho
      · by_cases q : o = v
        · subst q
          exact g4 o ho (by omega)
        · rw [sU_o (Or.inr q)] at hp
          exact g4 o ho hp
    · exact oth _ (fun k k1 k2 k3 => eu_ne k3) l hl e
  · refine q_firstFrom h hi (Nat.zero_le _) (by omega) ?_
    rw [Nat.max_eq_right (Nat.zero_le _)]
    have hpn : cN (sc i) v ≤ cN (sc i) 512 := cN_mono (by omega)
    generalize hp : cN (sc i) v = p at hpn ⊢
    generalize hn : cN (sc i) 512 = n at hpn g1 g2 d hg hf ⊢
    rw [nI_add, pk_sub hpn]
    simp (disch := omega) only [nz_lt, nI_clamp, n_in, forall_eq]
    refine ⟨fun q => q, fun q => q, fun q => q, by omega, by omega, by omega, ?_⟩
    generalize hB : va_cpy (M (5 + 3 * i)) (M (5 + 3 * i)) p (p + 1) (n - p) = B
    have same : ∀ k, k ≠ 4 + 3 * i → k ≠ 5 + 3 * i → k ≠ 6 + 3 * i → (em_up (em_up (em_up (va_up M (5 + 3 * i) B) (5 + 3 * i) p (nI v)) (4 + 3 * i) 2 (em_up (va_up M (5 + 3 * i) B) (5 + 3 * i) p (nI v) (4 + 3 * i) 2 + nI 1)) (6 + 3 * i) v (nI s)) k = M k := by
      intro k k1 k2 k3
      rw [eu_ne k3, eu_ne k1, eu_ne k2, va_up_ne _ _ k2]
    refine hg _ same (fun l hl => ?_) (fun _ => by omega)
    by_cases e : l = i
    · subst e
      have ec : ∀ o, cN (sU sc l v s l) o = cN (sc l) o + (if v < o then 1 else 0) := by
        intro o
        have := cN_up (sc := sc) (i := l) (v := v) (s := s) o
        have e2 : ¬ (v < o ∧ 0 < sc l v) := by omega
        have e3 : (v < o ∧ 0 < s) ↔ v < o := by omega
        simp only [e2, if_false, e3] at this
        omega
      have e4 : em_up (va_up M (5 + 3 * l) B) (5 + 3 * l) p (nI v) (4 + 3 * l) 2 = nI n := by
        rw [eu_ne (by omega), va_up_ne _ _ (by omega)]; exact g1
      rw [e4]
      refine ⟨?_, ?_, fun o ho => ?_, fun o ho hpos => ?_⟩
      · rw [eu_ne (by omega), eu_eq, nI_add, ec, hn, if_pos hv]
      · rw [ec, hn, if_pos hv]; omega
      · by_cases q : o = v
        · subst q
          rw [eu_eq, sU_eq]
          exact ⟨rfl, hs2⟩
        · rw [eu_j q, sU_o (Or.inr q), eu_ne (by omega), eu_ne (by omega), va_up_ne _ _ (by omega)]
          exact g3 o ho
      · rw [eu_ne (by omega), eu_ne (by omega), ec]
        by_cases q : o = v
        · subst q
          rw [if_neg (Nat.lt_irrefl _), hp, Nat.add_zero, eu_eq]
        · rw [sU_o (Or.inr q)] at hpos
          have a4 := g4 o ho hpos
          have on : cN (sc l) o < n := by rw [← hn]; exact cN_lt ho hpos
          by_cases lt : v < o
          · have ge : p ≤ cN (sc l) o := by rw [← hp]; exact cN_mono (by omega)
            rw [if_pos lt, eu_j (by omega), va_up_self, ← hB, pk_cpy_in (by omega) (by omega)]
            rw [show p + (cN (sc l) o + 1 - (p + 1)) = cN (sc l) o by omega]
            exact a4
          · have ltp : cN (sc l) o < p := by rw [← hp]; exact cN_lt (by omega) hpos
            rw [if_neg lt, Nat.add_zero, eu_j (by omega), va_up_self, ← hB, pk_cpy_out (by omega)]
            exact a4
    · exact oth _ same l hl e
theorem q_drop {post : Int32 → em_M → Prop} {sc : Nat → Nat → Nat} {M : em_M} {i v : Nat} (h : cS sc M) (hi : i < 12) (hv : v < 512) (hf : sc i v = 0 → post (nI 0) M)
    (hg : ∀ M', (∀ k, k ≠ 4 + 3 * i → k ≠ 5 + 3 * i → k ≠ 6 + 3 * i → M' k = M k) → cS (sU sc i v 0) M' → 0 < sc i v → post (nI 1) M') : wp_SL_drop post i (nI v) M := by
  obtain ⟨g1, g2, g3, g4⟩ := id h i hi
  have hsc := (g3 v hv).2
  simp (disch := omega) only [wp_SL_drop, n_in, nI_clamp, forall_eq, (g3 v hv).1, nz_eq, g1]
  refine ⟨hv, fun c => ?_, hf⟩
  refine q_firstFrom h hi (Nat.zero_le _) (by omega) ?_
  rw [Nat.max_eq_right (Nat.zero_le _)]
  have hpn : cN (sc i) v < cN (sc i) 512 := cN_lt hv (by omega)
  generalize hp : cN (sc i) v = p at hpn ⊢
  generalize hn : cN (sc i) 512 = n at hpn g1 g2 ⊢
  rw [nI_add, pk_sub (by omega), pk_sub (by omega)]
  simp (disch := omega) only [nz_lt, nI_clamp, n_in, forall_eq]
  refine ⟨fun q => q, fun q => q, fun q => q, by omega, by omega, ?_⟩
  generalize hB : va_cpy (M (5 + 3 * i)) (M (5 + 3 * i)) (p + 1) p (n - p - 1) = B
  have e4 : va_up M (5 + 3 * i) B (4 + 3 * i) 2 = nI n := by
    rw [va_up_ne _ _ (by omega)]; exact g1
  rw [e4]
  have same : ∀ k, k ≠ 4 + 3 * i → k ≠ 5 + 3 * i → k ≠ 6 + 3 * i → (em_up (em_up (va_up M (5 + 3 * i) B) (4 + 3 * i) 2 (nI n - nI 1)) (6 + 3 * i) v (nI 0)) k = M k := by
    intro k k1 k2 k3
    rw [eu_ne k3, eu_ne k1, va_up_ne _ _ k2]
  refine hg _ same (fun l hl => ?_) (by omega)
  by_cases e : l = i
  · subst e
    have ec : ∀ o, cN (sU sc l v 0 l) o + (if v < o then 1 else 0) = cN (sc l) o := by
      intro o
      have := cN_up (sc := sc) (i := l) (v := v) (s := 0) o
      have e2 : (v < o ∧ 0 < sc l v) ↔ v < o := by omega
      have e3 : ¬ (v < o ∧ 0 < 0) := by omega
      simp only [e2, e3, if_false] at this
      omega
    have ec5 := ec 512
    rw [if_pos hv, hn] at ec5
    refine ⟨?_, by omega, fun o ho => ?_, fun o ho hpos => ?_⟩
    · rw [eu_ne (by omega), eu_eq, pk_sub (by omega)]
      congr 1
      omega
    · by_cases q : o = v
      · subst q
        rw [eu_eq, sU_eq]
        exact ⟨rfl, by omega⟩
      · rw [eu_j q, sU_o (Or.inr q), eu_ne (by omega), va_up_ne _ _ (by omega)]
        exact g3 o ho
    · rw [eu_ne (by omega), eu_ne (by omega), va_up_self]
      by_cases q : o = v
      · subst q
        rw [sU_eq] at hpos
        omega
      · rw [sU_o (Or.inr q)] at hpos
        have a4 := g4 o ho hpos
        have on : cN (sc l) o < n := by rw [← hn]; exact cN_lt ho hpos
        have eo := ec o
        by_cases lt : v < o
        · have ge : p < cN (sc l) o := by rw [← hp]; exact cN_lt lt (by omega)
          rw [if_pos lt] at eo
          rw [← hB, pk_cpy_in (by omega) (by omega)]
          rw [show p + 1 + (cN (sU sc l v 0 l) o - p) = cN (sc l) o by omega]
          exact a4
        · have ltp : cN (sc l) o < p := by rw [← hp]; exact cN_lt (by omega) hpos
          rw [if_neg lt] at eo
          rw [← hB, pk_cpy_out (by omega)]
          rw [show cN (sU sc l v 0 l) o = cN (sc l) o by omega]
          exact a4
  · rw [sU_l e, same (4 + 3 * l) (by omega) (by omega) (by omega), same (5 + 3 * l) (by omega) (by omega) (by omega), same (6 + 3 * l) (by omega) (by omega) (by omega)]
    exact h l hl
theorem mS_U {sc : Nat → Nat → Nat} {M : em_M} {i v s : Nat} (h : mS sc M) (hi : i < 12) (hv : v < 512) (hs : s ≤ 100) : mS (sU sc i v s) (em_up M 53 (512 * i + v) (nI s)) := by
  intro l hl o ho
  by_cases e : l = i ∧ o = v
  · obtain ⟨rfl, rfl⟩ := e
    rw [eu_eq, sU_eq]
    exact ⟨rfl, hs⟩
  · rw [eu_j (by omega), sU_o (by omega)]
    exact h l hl o ho
/-- the tie, when the class's lists and the reference's scores have changed alike -/
theorem JJ_U {sc : Nat → Nat → Nat} {so we : Nat → Nat} {ky : Nat → Int32} {w h : Nat} {M M' : em_M} {i v s : Nat} (H : J0 sc so we ky w h M) (hi : i < 12) (hv : v < 512) (hs : s ≤ 100) (hM : ∀ k, k ≠ 4 + 3 * i → k ≠ 5 + 3 * i → k ≠ 6 + 3 * i → M' k = M k) (hS : cS (sU sc i v s) M') : JJ (em_up (em_up M' 52 0 (nI 0)) 53 (512 * i + v) (nI s)) ∧ mS (sU sc i v s) (em_up (em_up M' 52 0 (nI 0)) 53 (512 * i + v) (nI s)) ∧ mS sc (em_up M' 52 0 (nI 0)) := by
  obtain ⟨a1, a2, a3, a4, a5, a6, a7, a8, a9⟩ := H
  have c : ∀ k, (k < 4 ∨ 40 ≤ k) → M' k = M k := fun k hk => hM k (by omega) (by omega) (by omega)
  have m1 : mS sc (em_up M' 52 0 (nI 0)) := mS_c a2 (by rw [eu_ne (by omega)]; exact c 53 (by omega))
  have m2 := mS_U m1 hi hv hs
  refine ⟨⟨sU sc i v s, so, we, ky, w, h, cS_c hS (fun k _ _ => by simp (disch := omega) only [eu_ne]), m2, cQ_c a3 (by simp (disch := omega) only [eu_ne, eu_j, eu_eq, c]) (by simp (disch := omega) only [eu_ne, eu_j, eu_eq, c]), mQ_c a4 (by simp (disch := omega) only [eu_ne, eu_j, eu_eq, c]) (by simp (disch := omega) only [eu_ne, eu_j, eu_eq, c]), jK_c a5 (by simp (disch := omega) only [eu_ne, eu_j, eu_eq, c]) (by simp (disch := omega) only [eu_ne, eu_j, eu_eq, c]), jW_c a6 (by simp (disch := omega) only [eu_ne, eu_j, eu_eq, c]) (by simp (disch := omega) only [eu_ne, eu_j, eu_eq, c]), jP_c a7 (by simp (disch := omega) only [eu_ne, eu_j, eu_eq, c]) (by simp (disch := omega) only [eu_ne, eu_j, eu_eq, c]) (by simp (disch := omega) only [eu_ne, eu_j, eu_eq, c]) (by simp (disch := omega) only [eu_ne, eu_j, eu_eq, c]) (by simp (disch := omega) only [eu_ne, eu_j, eu_eq, c]), jA_c a8 (by simp (disch := omega) only [eu_ne, eu_j, eu_eq, c]) (by simp (disch := omega) only [eu_ne, eu_j, eu_eq, c]) (by simp (disch := omega) only [eu_ne, eu_j, eu_eq, c]) (by simp (disch := omega) only [eu_ne, eu_j, eu_eq, c]) (by simp (disch := omega) only [eu_ne, eu_j, eu_eq, c]) (by simp (disch := omega) only [eu_ne, eu_j, eu_eq, c]) (by simp (disch := omega) only [eu_ne, eu_j, eu_eq, c]) (by simp (disch := omega) only [eu_ne, eu_j, eu_eq, c]) (by simp (disch := omega) only [eu_ne, eu_j, eu_eq, c]) (by simp (disch := omega) only [eu_ne, eu_j, eu_eq, c]) (by simp (disch := omega) only [eu_ne, eu_j, eu_eq, c]) (by simp (disch := omega) only [eu_ne, eu_j, eu_eq, c]) (by simp (disch := omega) only [eu_ne, eu_j, eu_eq, c]) (by simp (disch := omega) only [eu_ne, eu_j, eu_eq, c]), jT_c a9 (by simp (disch := omega) only [eu_ne, eu_j, eu_eq, c]) (by simp (disch := omega) only [eu_ne, eu_j, eu_eq, c]) (fun j _ => by simp (disch := omega) only [eu_ne, eu_j, c])⟩, m2, m1⟩
theorem op_entry {x y z : Int32} {M : em_M} {post : Int32 → Int32 → em_M → Prop} (H : JJ M) (hp : ∀ r M2, JJ M2 → post r r M2) : wp_BE_entry (fun r M1 => wp_MD_entry (fun r2 M2 => post r r2 M2) x y z M1) x y z M := by
  unfold wp_BE_entry
  refine q_isList (fun a b => ⟨fun c => absurd c nI_10, fun _ => ?_⟩) (fun a => ⟨fun _ => ?_, fun c => absurd rfl c⟩)
  · refine q_isObject (fun a' b' => ⟨fun c => absurd c nI_10, fun _ => ?_⟩) (fun a' => ⟨fun _ => ?_, fun c => absurd rfl c⟩)
    · refine q_isWithin (fun a2 b2 => ⟨fun _ => ?_, fun c => absurd c nI_10⟩) (fun a2 => ⟨fun c => absurd rfl c, fun _ => ?_⟩)
      · obtain ⟨i, i1, i2, rfl⟩ := n_rng (by omega) a b (by omega)
        obtain ⟨v, v1, v2, rfl⟩ := n_rng (by omega) a' b' (by omega)
        obtain ⟨s, s1, s2, rfl⟩ := n_rng (by omega) a2 b2 (by omega)
        obtain ⟨sc, so, we, ky, w, h, H0⟩ := id H
        have H' := J0_thr (x := nI 0) H0
        have hsc := (H0.2.1 i (by omega) v (by omega)).2
        have hle := (H0.1 i (by omega)).2.1
        simp (disch := omega) only [n_in, nI_clamp]
        refine ⟨by omega, q_put H0.1 (by omega) (by omega) s1 s2 (fun c d => ⟨fun _ => ?_, fun q => absurd rfl q⟩) (fun M' hM hS hlt => ⟨fun q => absurd q nI_10, fun _ => ?_⟩)⟩
        · simp only [forall_eq, wp_MD_entry, em_join]
          refine m_in (fun _ _ => ⟨fun c => absurd c nI_10, fun _ => m_in (fun _ _ => ⟨fun c => absurd c nI_10, fun _ => m_in (fun _ _ => ⟨fun _ => m_at H'.2.1 (by omega) (by omega) ?_, fun c => absurd c nI_10⟩) (fun c => absurd ⟨a2, b2⟩ c)⟩) (fun c => absurd ⟨a', b'⟩ c)⟩) (fun c => absurd ⟨a, b⟩ c)
          simp (disch := omega) only [nz_eq]
          refine ⟨fun q => absurd c q, fun _ => m_size H'.2.1 (by omega) ?_⟩
          rw [nI_eq (by omega) (by omega)]
          exact ⟨fun q => absurd (by omega) q, fun _ => hp _ _ ⟨sc, so, we, ky, w, h, H'⟩⟩
        · obtain ⟨jj, m2, m1⟩ := JJ_U H0 (by omega) (by omega) s2 hM hS
          rw [(hS i (by omega)).1]
          simp only [forall_eq, wp_MD_entry, em_join]
          have fin : vp_in (nI 512 * nI i + nI v) 6144 ∧ wp_MD_size (fun r_21 => post (nI (cN (sU sc i v s i) 512)) r_21 (em_up (em_up M' 52 0 (nI 0)) 53 (nI 512 * nI i + nI v).toNatClampNeg (nI s))) (nI i) (em_up (em_up M' 52 0 (nI 0)) 53 (nI 512 * nI i + nI v).toNatClampNeg (nI s)) := by
            rw [pk_mul, nI_add, nI_clamp (by omega)]
            exact ⟨vp_in_nI (by omega) (by omega), m_size m2 (by omega) (hp _ _ jj)⟩
          refine m_in (fun _ _ => ⟨fun c => absurd c nI_10, fun _ => m_in (fun _ _ => ⟨fun c => absurd c nI_10, fun _ => m_in (fun _ _ => ⟨fun _ => m_at m1 (by omega) (by omega) ?_, fun c => absurd c nI_10⟩) (fun c => absurd ⟨a2, b2⟩ c)⟩) (fun c => absurd ⟨a', b'⟩ c)⟩) (fun c => absurd ⟨a, b⟩ c)
          simp (disch := omega) only [nz_eq]
          refine ⟨fun _ => fin, fun q => m_size m1 (by omega) ?_⟩
          have := hlt q
          rw [nI_eq (by omega) (by omega)]
          exact ⟨fun _ => fin, fun q => absurd q (by omega)⟩
      · simp only [forall_eq, wp_MD_entry]
        exact m_in (fun _ _ => ⟨fun c => absurd c nI_10, fun _ => m_in (fun _ _ => ⟨fun c => absurd c nI_10, fun _ => m_in (fun b c => absurd ⟨b, c⟩ a2) (fun _ => ⟨fun c => absurd rfl c, fun _ => hp _ _ (JJ_thr H)⟩)⟩) (fun c => absurd ⟨a', b'⟩ c)⟩) (fun c => absurd ⟨a, b⟩ c)
    · simp only [forall_eq, wp_MD_entry]
      exact m_in (fun _ _ => ⟨fun c => absurd c nI_10, fun _ => m_in (fun b c => absurd ⟨b, c⟩ a') (fun _ => ⟨fun _ => hp _ _ (JJ_thr H), fun c => absurd rfl c⟩)⟩) (fun c => absurd ⟨a, b⟩ c)
  · simp only [forall_eq, wp_MD_entry]
    exact m_in (fun b c => absurd ⟨b, c⟩ a) (fun _ => ⟨fun _ => hp _ _ (JJ_thr H), fun c => absurd rfl c⟩)
theorem op_lose {x y : Int32} {M : em_M} {post : Int32 → Int32 → em_M → Prop} (H : JJ M) (hp : ∀ r M2, JJ M2 → post r r M2) : wp_BE_lose (fun r M1 => wp_MD_lose (fun r2 M2 => post r r2 M2) x y M1) x y M := by
  unfold wp_BE_lose
  refine q_isList (fun a b => ⟨fun c => absurd c nI_10, fun _ => ?_⟩) (fun a => ⟨fun _ => ?_, fun c => absurd rfl c⟩)
  · refine q_isObject (fun a' b' => ⟨fun _ => ?_, fun c => absurd c nI_10⟩) (fun a' => ⟨fun c => absurd rfl c, fun _ => ?_⟩)
    · obtain ⟨i, i1, i2, rfl⟩ := n_rng (by omega) a b (by omega)
      obtain ⟨v, v1, v2, rfl⟩ := n_rng (by omega) a' b' (by omega)
      obtain ⟨sc, so, we, ky, w, h, H0⟩ := id H
      have H' := J0_thr (x := nI 0) H0
      have hsc := (H0.2.1 i (by omega) v (by omega)).2
      simp (disch := omega) only [n_in, nI_clamp]
      refine ⟨by omega, q_drop H0.1 (by omega) (by omega) (fun c => ⟨fun _ => ?_, fun q => absurd rfl q⟩) (fun M' hM hS hpos => ⟨fun q => absurd q nI_10, fun _ => ?_⟩)⟩
      · simp only [forall_eq, wp_MD_lose]
        refine m_in (fun _ _ => ⟨fun c => absurd c nI_10, fun _ => m_in (fun _ _ => ⟨fun c => absurd c nI_10, fun _ => m_at H'.2.1 (by omega) (by omega) ?_⟩) (fun c => absurd ⟨a', b'⟩ c)⟩) (fun c => absurd ⟨a, b⟩ c)
        simp (disch := omega) only [nz_eq]
        exact ⟨fun q => absurd c q, fun _ => hp _ _ ⟨sc, so, we, ky, w, h, H'⟩⟩
      · obtain ⟨jj, m2, m1⟩ := JJ_U H0 (by omega) (by omega) (by omega) hM hS
        rw [(hS i (by omega)).1]
        simp only [forall_eq, wp_MD_lose]
        refine m_in (fun _ _ => ⟨fun c => absurd c nI_10, fun _ => m_in (fun _ _ => ⟨fun c => absurd c nI_10, fun _ => m_at m1 (by omega) (by omega) ?_⟩) (fun c => absurd ⟨a', b'⟩ c)⟩) (fun c => absurd ⟨a, b⟩ c)
        rw [pk_mul, nI_add, nI_clamp (by omega)]
        simp (disch := omega) only [nz_eq]
        exact ⟨fun _ => ⟨vp_in_nI (by omega) (by omega), m_size m2 (by omega) (hp _ _ jj)⟩, fun q => absurd q (by omega)⟩
    · simp only [forall_eq, wp_MD_lose]
      exact m_in (fun _ _ => ⟨fun c => absurd c nI_10, fun _ => m_in (fun b c => absurd ⟨b, c⟩ a') (fun _ => ⟨fun _ => hp _ _ (JJ_thr H), fun c => absurd rfl c⟩)⟩) (fun c => absurd ⟨a, b⟩ c)
  · simp only [forall_eq, wp_MD_lose]
    exact m_in (fun b c => absurd ⟨b, c⟩ a) (fun _ => ⟨fun _ => hp _ _ (JJ_thr H), fun c => absurd rfl c⟩)
