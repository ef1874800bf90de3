/-! COUNT -/
theorem cnN_asked (so : Nat → Nat) : ∀ n, cnN (fun l => so l == 1) n + cnN (fun l => so l == 2) n = cnN (asked so) n
  | 0 => rfl
  | n + 1 => by
    have ih := cnN_asked so n
    simp only [cnN, asked, beq_iff_eq, Bool.or_eq_true]
    by_cases a : so n = 1
    · rw [if_pos a, if_neg (by omega), if_pos (Or.inl a)]; omega
    · by_cases b : so n = 2
      · rw [if_neg a, if_pos b, if_pos (Or.inr b)]; omega
      · rw [if_neg a, if_neg b, if_neg (by omega)]; omega
theorem m_countP {post : Int32 → em_M → Prop} {so we : Nat → Nat} {v : Nat} {M : em_M} {p : Nat → Bool} (hQ : mQ so we M) (h1 : 12 ≤ v) (h2 : v ≤ 14) (hpp : ∀ l, p l = if v = 12 then asked so l else so l == v - 11) (hp : post (nI (cnN p 12)) (em_up M 52 0 (nI 0))) : wp_MD_count post (nI v) M := by
  have hQ' : mQ so we (em_up M 52 0 (nI 0)) := mQ_c hQ (by simp (disch := omega) only [eu_ne, eu_j, eu_eq]) (by simp (disch := omega) only [eu_ne, eu_j, eu_eq])
  simp only [wp_MD_count, forall_eq]
  generalize em_up M 52 0 (nI 0) = M1 at hp hQ' ⊢
  refine m_in (fun _ _ => ⟨fun _ => ?_, fun c => absurd c nI_10⟩) (fun c => absurd ⟨(nI_leI (by omega) (by omega)).mpr (by omega), (nI_leI (by omega) (by omega)).mpr (by omega)⟩ c)
  simp (disch := omega) only [nI_leI, nI_eq]
  refine ⟨fun _ => ⟨fun _ => ⟨fun _ => ?_, fun c => absurd c (by omega)⟩, fun c => absurd c (by omega)⟩, fun c => absurd h1 c⟩
  refine ⟨fun a x => ∃ k, k ≤ 12 ∧ x = nI k ∧ a = nI (cnN p k), fun _ x => 12 - x.toNatClampNeg, ⟨0, by omega, rfl, rfl⟩, ?_⟩
  rintro _ _ ⟨k, k1, rfl, rfl⟩
  refine ejG (fun J => k = 12 → J) (fun e => ?_) (fun J hJ => ?_)
  · subst e
    refine ⟨fun a x => x = nI 0 ∧ a = nI (cnN p 12), fun _ _ => 0, ⟨rfl, rfl⟩, ?_⟩
    rintro _ _ ⟨rfl, rfl⟩
    exact ⟨fun _ => hp, fun _ => ⟨fun _ => hp, fun c => absurd c (by omega)⟩⟩
  · simp (disch := omega) only [nI_leI]
    refine ⟨fun c => hJ (by omega), fun c => ⟨fun d => absurd d (by omega), fun _ => ?_⟩⟩
    obtain ⟨g1, g2, -⟩ := hQ' k (by omega)
    refine ejG (fun J => J (bI (p k))) ?_ (fun J2 hJ2 => ?_)
    · simp only [em_join, nI_add, bI_0]
      refine ⟨fun d => ⟨⟨k + 1, by omega, rfl, ?_⟩, ?_⟩, fun d => ⟨⟨k + 1, by omega, rfl, ?_⟩, ?_⟩⟩
      · simp only [cnN]; rw [d]; rfl
      · rw [nI_clamp (by omega), nI_clamp (by omega)]; omega
      · simp only [cnN]; rw [show p k = true by simpa using d]; rfl
      · rw [nI_clamp (by omega), nI_clamp (by omega)]; omega
    · rw [hpp] at hJ2
      refine ⟨fun d => ?_, fun d => m_isAsked hQ' (by omega) (by rw [if_pos d] at hJ2; exact hJ2)⟩
      rw [if_neg d] at hJ2
      rw [pk_sub (by omega)]
      simp (disch := omega) only [n_in, nI_clamp, g1, nI_eq]
      refine ⟨by omega, fun e => ?_, fun e => ?_⟩
      · rw [show (so k == v - 11) = false by simpa using e] at hJ2; exact hJ2
      · rw [show (so k == v - 11) = true by simpa using e] at hJ2; exact hJ2
theorem m_count17 {post : Int32 → em_M → Prop} {sc : Nat → Nat → Nat} {M : em_M} (hS : mS sc M) (hp : post (nI (cnN (somewN sc) 512)) (em_up M 52 0 (nI 0))) : wp_MD_count post (nI 17) M := by
  have hS' : mS sc (em_up M 52 0 (nI 0)) := mS_c hS (by simp (disch := omega) only [eu_ne, eu_j, eu_eq])
  simp only [wp_MD_count, forall_eq]
  generalize em_up M 52 0 (nI 0) = M1 at hp hS' ⊢
  refine m_in (fun _ _ => ⟨fun _ => ?_, fun c => absurd c nI_10⟩) (fun c => absurd ⟨by decide, by decide⟩ c)
  refine ⟨fun _ => ⟨fun _ => ⟨fun _ => ?_, fun c => absurd c (by decide)⟩, fun c => absurd c (by decide)⟩, fun c => absurd (by decide) c⟩
  refine ⟨fun a x => x = nI 0 ∧ a = nI 0, fun _ _ => 0, ⟨rfl, rfl⟩, ?_⟩
  rintro _ _ ⟨rfl, rfl⟩
  refine ejG (fun J => J) ?_ (fun J hJ => ⟨fun c => hJ, fun c => ⟨fun _ => hJ, fun c => absurd (by decide) c⟩⟩)
  refine lpA (by omega) (by omega) (fun k a => a = nI (cnN (somewN sc) k)) rfl (fun a e => e ▸ hp) ?_
  rintro I mu k _ hk _ rfl st
  refine ⟨fun c => absurd trivial c, fun _ => m_isSomewhere hS' hk ?_⟩
  simp only [em_join, bI_0]
  refine ⟨fun c => st _ ?_, fun c => st _ ?_⟩
  · simp [cnN, c]
  · rw [nI_add]; simp at c; simp [cnN, c]
theorem op_count {x : Int32} {M : em_M} {post : Int32 → Int32 → em_M → Prop} (H : JJ M) (hp : ∀ r M2, JJ M2 → post r r M2) : wp_BE_count (fun r => wp_MD_count (fun r2 M2 => post r r2 M2) x M) x M := by
  obtain ⟨sc, so, we, ky, w, h, a1, a2, a3, a4, a5, a6, a7, a8, a9⟩ := id H
  have hJ := JJ_thr (x := nI 0) H
  have hno : ∀ {a b : Nat}, a < 99 → b < 99 → a ≠ b → nI a = nI b → False := fun ha hb hn e => hn ((nI_eq (by omega) (by omega)).mp e)
  unfold wp_BE_count
  refine q_isList (fun a b => ⟨fun c => absurd c nI_10, fun _ => ?_⟩) (fun a => ⟨fun _ => ?_, fun c => absurd rfl c⟩)
  · obtain ⟨v, v1, v2, rfl⟩ := n_rng (by omega) a b (by omega)
    simp (disch := omega) only [n_in, nI_clamp, wp_MD_count, forall_eq]
    refine ⟨by omega, m_in (fun _ _ => ⟨fun _ => ⟨fun c => absurd c ?_, fun _ => ?_⟩, fun c => absurd c nI_10⟩) (fun c => absurd ⟨a, ?_⟩ c)⟩
    · rw [nI_leI (by omega) (by omega)]; omega
    · refine m_size (sc := sc) (mS_c a2 (by simp (disch := omega) only [eu_ne, eu_j, eu_eq])) (by omega) ?_
      rw [(a1 v (by omega)).1]; exact hp _ _ hJ
    · rw [nI_leI (by omega) (by omega)]; omega
  · refine ⟨fun c => ?_, fun e => ?_, fun e => ?_, fun e => ?_, fun e => ?_, fun e => ?_, fun e => ?_⟩
    · simp only [wp_MD_count, forall_eq]
      refine m_in (fun q1 q2 => ?_) (fun _ => ⟨fun c => absurd rfl c, fun _ => hp _ _ hJ⟩)
      obtain ⟨v, v1, v2, rfl⟩ := n_rng (by omega) q1 q2 (by omega)
      simp (disch := omega) only [nI_leI, nI_ltI] at a c
      omega
    · subst e
      refine q_listsOfSort a3 (by omega) (q_listsOfSort a3 (by omega) ?_)
      rw [nI_add, cnN_asked]
      exact m_countP a4 (by omega) (by omega) (fun _ => rfl) (hp _ _ hJ)
    · subst e
      exact q_listsOfSort a3 (by omega) (m_countP a4 (by omega) (by omega) (fun _ => rfl) (hp _ _ hJ))
    · subst e
      exact q_listsOfSort a3 (by omega) (m_countP a4 (by omega) (by omega) (fun _ => rfl) (hp _ _ hJ))
    · subst e
      simp only [wp_MD_count, forall_eq]
      refine m_in (fun _ _ => ⟨fun _ => ⟨fun _ => ⟨fun c => absurd trivial c, fun _ => ?_⟩, fun c => absurd (by decide) c⟩, fun c => absurd c nI_10⟩) (fun c => absurd ⟨by decide, by decide⟩ c)
      rw [eu_j (by omega), a6.1, a6.2.1]; exact hp _ _ hJ
    · subst e
      simp only [wp_MD_count, forall_eq]
      refine m_in (fun _ _ => ⟨fun _ => ⟨fun _ => ⟨fun _ => ⟨fun c => absurd trivial c, fun _ => ?_⟩, fun c => absurd c (by decide)⟩, fun c => absurd (by decide) c⟩, fun c => absurd c nI_10⟩) (fun c => absurd ⟨by decide, by decide⟩ c)
      rw [eu_j (by omega), a8.1, a8.2.1]; exact hp _ _ hJ
    · subst e
      exact q_objectsInSomeList a1 (m_count17 a2 (hp _ _ hJ))
