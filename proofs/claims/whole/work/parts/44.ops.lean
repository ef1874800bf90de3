/-! PLACE, TOTAL, ANSWER, TOP -/
theorem md_place {x y : Int32} {M1 : em_M} {Q : Int32 → em_M → Prop} (hv : x = (-1 : Int32) ∨ (nI 0 ≤ x ∧ x ≤ nI 10800 ∧ nI 0 ≤ y ∧ y ≤ nI 511)) (h1 : 0 ≤ M1 52 6 → Q (nI 1) (em_up (em_up (em_up M1 52 0 (nI 0)) 52 6 x) 52 7 y)) (h0 : ¬ 0 ≤ M1 52 6 → Q (nI 0) (em_up (em_up (em_up M1 52 0 (nI 0)) 52 6 x) 52 7 y)) : wp_MD_place Q x y M1 := by
  simp (disch := omega) only [wp_MD_place, forall_eq, em_join, eu_j]
  refine ⟨fun _ => ⟨h1, h0⟩, fun c => ?_⟩
  rcases hv with hv | hv
  · exact absurd hv c
  · exact m_in (fun _ _ => ⟨fun c => absurd c nI_10, fun _ => m_in (fun _ _ => ⟨fun _ => ⟨h1, h0⟩, fun c => absurd c nI_10⟩) (fun c => absurd ⟨hv.2.2.1, hv.2.2.2⟩ c)⟩) (fun c => absurd ⟨hv.1, hv.2.1⟩ c)
theorem md_place_bad {x y : Int32} {M1 : em_M} {Q : Int32 → em_M → Prop} (hb : ¬ x = (-1 : Int32)) (hv : ¬ (nI 0 ≤ x ∧ x ≤ nI 10800 ∧ nI 0 ≤ y ∧ y ≤ nI 511)) (hq : Q (-1) (em_up M1 52 0 (nI 0))) : wp_MD_place Q x y M1 := by
  simp (disch := omega) only [wp_MD_place, forall_eq, em_join, eu_j]
  refine ⟨fun c => absurd c hb, fun _ => m_in (fun a b => ⟨fun c => absurd c nI_10, fun _ => m_in (fun c d => absurd ⟨a, b, c, d⟩ hv) (fun _ => ⟨fun c => absurd rfl c, fun _ => hq⟩)⟩) (fun _ => ⟨fun _ => hq, fun c => absurd rfl c⟩)⟩
theorem op_place {x y : Int32} {M : em_M} {post : Int32 → Int32 → em_M → Prop} (H : JJ M) (hp : ∀ r M2, JJ M2 → post r r M2) : wp_BE_place (fun r M1 => wp_MD_place (fun r2 M2 => post r r2 M2) x y M1) x y M := by
  obtain ⟨sc, so, we, ky, w, h, a1, a2, a3, a4, a5, a6, a7, a8, a9⟩ := id H
  have fin : ∀ z : Int32, (z = 0 ∧ x < 0) ∨ (z = 1 ∧ ¬ x < 0) → JJ (em_up (em_up (em_up (em_up (em_up (em_up M 40 4 z) 40 5 x) 40 6 y) 52 0 (nI 0)) 52 6 x) 52 7 y) := by
    intro z hz
    refine ⟨sc, so, we, ky, w, h, cS_c a1 (fun k _ _ => by simp (disch := omega) only [eu_ne]), mS_c a2 (by simp (disch := omega) only [eu_ne, eu_j, eu_eq]), cQ_c a3 (by simp (disch := omega) only [eu_ne, eu_j, eu_eq]) (by simp (disch := omega) only [eu_ne, eu_j, eu_eq]), mQ_c a4 (by simp (disch := omega) only [eu_ne, eu_j, eu_eq]) (by simp (disch := omega) only [eu_ne, eu_j, eu_eq]), jK_c a5 (by simp (disch := omega) only [eu_ne, eu_j, eu_eq]) (by simp (disch := omega) only [eu_ne, eu_j, eu_eq]), jW_c a6 (by simp (disch := omega) only [eu_ne, eu_j, eu_eq]) (by simp (disch := omega) only [eu_ne, eu_j, eu_eq]), ?_, jA_c a8 (by simp (disch := omega) only [eu_ne, eu_j, eu_eq]) (by simp (disch := omega) only [eu_ne, eu_j, eu_eq]) (by simp (disch := omega) only [eu_ne, eu_j, eu_eq]) (by simp (disch := omega) only [eu_ne, eu_j, eu_eq]) (by simp (disch := omega) only [eu_ne, eu_j, eu_eq]) (by simp (disch := omega) only [eu_ne, eu_j, eu_eq]) (by simp (disch := omega) only [eu_ne, eu_j, eu_eq]) (by simp (disch := omega) only [eu_ne, eu_j, eu_eq]) (by simp (disch := omega) only [eu_ne, eu_j, eu_eq]) (by simp (disch := omega) only [eu_ne, eu_j, eu_eq]) (by simp (disch := omega) only [eu_ne, eu_j, eu_eq]) (by simp (disch := omega) only [eu_ne, eu_j, eu_eq]) (by simp (disch := omega) only [eu_ne, eu_j, eu_eq]) (by simp (disch := omega) only [eu_ne, eu_j, eu_eq]), jT_c a9 (by simp (disch := omega) only [eu_ne, eu_j, eu_eq]) (by simp (disch := omega) only [eu_ne, eu_j, eu_eq]) (fun j _ => by simp (disch := omega) only [eu_ne, eu_j])⟩
    unfold jP
    simp (disch := omega) only [eu_ne, eu_j, eu_eq]
    rcases hz with hz | hz
    · exact Or.inl hz
    · exact Or.inr ⟨hz.1, hz.2, trivial, trivial⟩
  have go : ∀ z : Int32, ((z = 0 ∧ x < 0) ∨ (z = 1 ∧ ¬ x < 0)) → (x = (-1 : Int32) ∨ (nI 0 ≤ x ∧ x ≤ nI 10800 ∧ nI 0 ≤ y ∧ y ≤ nI 511)) → (M 40 4 = 0 → wp_MD_place (fun r2 M2 => post (nI 0) r2 M2) x y (em_up (em_up (em_up M 40 4 z) 40 5 x) 40 6 y)) ∧ (¬ M 40 4 = 0 → wp_MD_place (fun r2 M2 => post (nI 1) r2 M2) x y (em_up (em_up (em_up M 40 4 z) 40 5 x) 40 6 y)) := by
    intro z hz hv
    refine ⟨fun c => md_place hv (fun d => ?_) (fun _ => hp _ _ (fin z hz)), fun c => md_place hv (fun _ => hp _ _ (fin z hz)) (fun d => ?_)⟩
    · simp (disch := omega) only [eu_ne] at d
      rcases a7 with a7 | a7
      · exact absurd a7.2 (Int32.not_lt.mpr d)
      · rw [a7.1] at c; exact absurd c (by decide)
    · simp (disch := omega) only [eu_ne] at d
      rcases a7 with a7 | a7
      · exact absurd a7.1 c
      · exact absurd (Int32.not_lt.mp a7.2.1) d
  simp only [wp_BE_place, em_join, forall_eq]
  refine ⟨fun c => ⟨fun d => absurd rfl d, fun _ => q_isWithin (fun a b => ⟨fun c => absurd c nI_10, fun _ => q_isObject (fun a' b' => ⟨fun _ => ?_, fun c => absurd c nI_10⟩) (fun a' => ⟨fun c => absurd rfl c, fun _ => md_place_bad c (fun q => a' q.2.2) (hp _ _ (JJ_thr H))⟩)⟩) (fun a => ⟨fun _ => md_place_bad c (fun q => a ⟨q.1, q.2.1⟩) (hp _ _ (JJ_thr H)), fun c => absurd rfl c⟩)⟩, fun c => ⟨fun _ => ?_, fun d => absurd d nI_10⟩⟩
  · have g := go (nI 1) (Or.inr ⟨rfl, Int32.not_lt.mpr a⟩) (Or.inr ⟨a, b, a', b'⟩)
    refine ⟨fun e => ⟨fun d => absurd rfl d, fun _ => ⟨Or.inr rfl, g.1 e⟩⟩, fun e => ⟨fun d => absurd rfl d, fun _ => ⟨Or.inr rfl, g.2 e⟩⟩⟩
  · have g := go (nI 0) (Or.inl ⟨rfl, by rw [c]; decide⟩) (Or.inl c)
    refine ⟨fun e => ⟨fun _ => ⟨Or.inl rfl, g.1 e⟩, fun d => absurd d nI_10⟩, fun e => ⟨fun _ => ⟨Or.inl rfl, g.2 e⟩, fun d => absurd d nI_10⟩⟩
theorem cnN_mono {p : Nat → Bool} {a : Nat} : ∀ {b : Nat}, a ≤ b → cnN p a ≤ cnN p b
  | 0, h => by rw [show a = 0 by omega]; exact Nat.le_refl _
  | b + 1, h => by
    by_cases e : a = b + 1
    · rw [e]; exact Nat.le_refl _
    · have := cnN_mono (p := p) (show a ≤ b by omega)
      simp only [cnN]
      omega
theorem op_total {x : Int32} {M : em_M} {post : Int32 → Int32 → em_M → Prop} (H : JJ M) (hp : ∀ r M2, JJ M2 → post r r M2) : wp_BE_total (fun r => wp_MD_total (fun r2 M2 => post r r2 M2) x M) x M := by
  unfold wp_BE_total
  refine q_isWithin (fun a b => ⟨fun _ => ?_, fun c => absurd c nI_10⟩) (fun a => ⟨fun c => absurd rfl c, fun _ => ?_⟩)
  · obtain ⟨t, t1, t2, rfl⟩ := n_rng (by omega) a b (by omega)
    obtain ⟨sc, so, we, ky, w, h, H⟩ := H
    have H' := J0_thr (x := nI 0) H
    have hJ : JJ (em_up M 52 0 (nI 0)) := ⟨sc, so, we, ky, w, h, H'⟩
    have key : wp_MD_total (fun r2 M2 => post (nI (min (cnN (fitN sc so) 512) t)) r2 M2) (nI t) M := by
      simp only [forall_eq, wp_MD_total]
      refine m_in (fun _ _ => ⟨fun _ => ?_, fun c => absurd c nI_10⟩) (fun c => absurd ⟨a, b⟩ c)
      refine lpA (by omega) (by omega) (fun k z => z = nI (min (cnN (fitN sc so) k) t)) rfl (fun z e => e ▸ hp _ _ hJ) ?_
      rintro I mu k _ hk _ rfl st
      have hc := cnN_le (fitN sc so) k
      simp (disch := omega) only [em_join, forall_eq, nI_leI]
      refine ⟨fun c => st _ ?_, fun c => m_isFit H'.2.1 H'.2.2.2.1 hk ?_⟩
      · simp only [cnN]
        rw [show min (cnN (fitN sc so) k) t = t by omega]
        congr 1
        omega
      · rw [bI_0]
        refine ⟨fun d => st _ ?_, fun d => st _ ?_⟩
        · simp [cnN, d]
        · simp at d
          rw [nI_add]
          simp only [cnN, d, if_true]
          congr 1
          omega
    refine lpA (by omega) (by omega) (fun k z => z = nI (min (cnN (fitN sc so) k) t)) rfl (fun z e => e ▸ key) ?_
    rintro I mu k _ hk _ rfl st
    have hc := cnN_le (fitN sc so) k
    have hm : cnN (fitN sc so) k ≤ cnN (fitN sc so) 512 := cnN_mono (by omega)
    simp (disch := omega) only [em_join, forall_eq, nI_leI]
    refine ⟨fun c => ?_, fun c => q_admits H.1 H.2.2.1 hk ?_⟩
    · rw [show min (cnN (fitN sc so) k) t = min (cnN (fitN sc so) 512) t by omega]
      exact key
    · rw [bI_0]
      refine ⟨fun d => st _ ?_, fun d => st _ ?_⟩
      · simp [cnN, d]
      · simp at d
        rw [nI_add]
        simp only [cnN, d, if_true]
        congr 1
        omega
  · simp only [forall_eq, wp_MD_total]
    exact m_in (fun b c => absurd ⟨b, c⟩ a) (fun _ => ⟨fun c => absurd rfl c, fun _ => hp _ _ (JJ_thr H)⟩)
theorem n_rng1 {x : Int32} {h : Nat} (hh : h < 2 ^ 30) (h1 : nI 0 ≤ x) (h2 : x ≤ nI h - nI 1) : ∃ v : Nat, v < h ∧ x = nI v := by
  have e := pk_sub_toInt (a := h) (b := 1) hh (by decide)
  rw [Int32.le_iff_toInt_le, e] at h2
  obtain ⟨j, j1, j2⟩ := nI_of (x := x) (Int32.not_lt.mpr h1)
  subst j2
  rw [nI_toInt j1] at h2
  exact ⟨j, by omega, rfl⟩
theorem n_rng1' {v h : Nat} (hh : h < 2 ^ 30) (hv : v < h) : nI 0 ≤ nI v ∧ nI v ≤ nI h - nI 1 := by
  rw [pk_sub (by omega), nI_leI (by omega) (by omega), nI_leI (by omega) (by omega)]
  omega
theorem op_answer {x y : Int32} {M : em_M} {post : Int32 → Int32 → em_M → Prop} (H : JJ M) (hp : ∀ r M2, JJ M2 → post r r M2) : wp_BE_answer (fun r => wp_MD_answer (fun r2 M2 => post r r2 M2) x y M) x y M := by
  obtain ⟨sc, so, we, ky, w, h, H0⟩ := id H
  have hJ := JJ_thr (x := nI 0) H
  obtain ⟨b1, b2, b3, b4, b5⟩ := H0.2.2.2.2.2.2.2.1
  have e52 : (em_up M 52 0 (nI 0)) 52 8 = nI h := by simp (disch := omega) only [eu_j]; exact b2
  have f1 : (em_up M 52 0 (nI 0)) 57 = M 57 := by simp (disch := omega) only [eu_ne]
  have f2 : (em_up M 52 0 (nI 0)) 58 = M 58 := by simp (disch := omega) only [eu_ne]
  have f3 : (em_up M 52 0 (nI 0)) 59 = M 59 := by simp (disch := omega) only [eu_ne]
  have f4 : (em_up M 52 0 (nI 0)) 60 = M 60 := by simp (disch := omega) only [eu_ne]
  unfold wp_BE_answer
  rw [b1]
  refine q_isWithin (fun a b => ⟨fun _ => ?_, fun c => absurd c nI_10⟩) (fun a => ⟨fun c => absurd rfl c, fun _ => ?_⟩)
  · obtain ⟨v, v1, rfl⟩ := n_rng1 (by omega) a b
    obtain ⟨g1, g2, g3, g4⟩ := b4 v v1
    have bad : (y < nI 0 ∨ nI 4 ≤ y) → wp_MD_answer (fun r2 M2 => post (-1) r2 M2) (nI v) y M := by
      intro c
      simp only [forall_eq, wp_MD_answer, e52]
      refine m_in (fun _ _ => ⟨fun c => absurd c nI_10, fun _ => m_in (fun p q => ?_) (fun _ => ⟨fun c => absurd rfl c, fun _ => hp _ _ hJ⟩)⟩) (fun c => absurd ⟨a, b⟩ c)
      obtain ⟨t, t1, t2, rfl⟩ := n_rng (by omega) p q (by omega)
      rw [nI_ltI (by omega) (by omega), nI_leI (by omega) (by omega)] at c
      omega
    have good : ∀ t, t < 4 → ∀ r, r = (if t = 0 then M 44 v else if t = 1 then M 45 v else if t = 2 then M 46 v else M 47 v) → wp_MD_answer (fun r2 M2 => post r r2 M2) (nI v) (nI t) M := by
      intro t ht r hr
      simp only [forall_eq, wp_MD_answer, e52, f1, f2, f3, f4]
      simp (disch := omega) only [n_in, nI_clamp, nz_eq, nI_eq]
      refine m_in (fun _ _ => ⟨fun c => absurd c nI_10, fun _ => m_in (fun p q => ⟨fun _ => ?_, fun c => absurd c nI_10⟩) (fun c => absurd ?_ c)⟩) (fun c => absurd ⟨a, b⟩ c)
      · refine ⟨fun c1 => ⟨fun c2 => ⟨fun c3 => ⟨by omega, ?_⟩, fun c3 => ⟨by omega, ?_⟩⟩, fun c2 => ⟨by omega, ?_⟩⟩, fun c1 => ⟨by omega, ?_⟩⟩
        · rw [if_neg c1, if_neg c2, if_neg c3, g4] at hr; rw [← hr]; exact hp _ _ hJ
        · rw [if_neg c1, if_neg c2, if_pos c3, g3] at hr; rw [← hr]; exact hp _ _ hJ
        · rw [if_neg c1, if_pos c2, g2] at hr; rw [← hr]; exact hp _ _ hJ
        · rw [if_pos c1, g1] at hr; rw [← hr]; exact hp _ _ hJ
      · rw [nI_leI (by omega) (by omega), nI_leI (by omega) (by omega)]; omega
    simp (disch := omega) only [n_in, nI_clamp]
    refine ⟨bad, fun e => ⟨by omega, ?_⟩, fun e => ⟨by omega, ?_⟩, fun e => ⟨by omega, ?_⟩, fun e => ⟨by omega, ?_⟩⟩
    · rw [e]; exact good 0 (by omega) _ rfl
    · rw [e]; exact good 1 (by omega) _ rfl
    · rw [e]; exact good 2 (by omega) _ rfl
    · rw [e]; exact good 3 (by omega) _ rfl
  · simp only [forall_eq, wp_MD_answer, e52]
    exact m_in (fun b c => absurd ⟨b, c⟩ a) (fun _ => ⟨fun _ => hp _ _ hJ, fun c => absurd rfl c⟩)
theorem op_top {x y : Int32} {M : em_M} {post : Int32 → Int32 → em_M → Prop} (H : JJ M) (hp : ∀ r M2, JJ M2 → post r r M2) : wp_BE_top (fun r => wp_MD_top (fun r2 M2 => post r r2 M2) x y M) x y M := by
  obtain ⟨sc, so, we, ky, w, h, H0⟩ := id H
  have H' := J0_thr (x := nI 0) H0
  have hJ : JJ (em_up M 52 0 (nI 0)) := ⟨sc, so, we, ky, w, h, H'⟩
  unfold wp_BE_top
  refine q_isList (fun a b => ⟨fun _ => ?_, fun c => absurd c nI_10⟩) (fun a => ⟨fun c => absurd rfl c, fun _ => ?_⟩)
  · obtain ⟨l, l1, l2, rfl⟩ := n_rng (by omega) a b (by omega)
    have hsz := (H0.1 l (by omega)).2.1
    simp (disch := omega) only [n_in, nI_clamp]
    refine ⟨by omega, fun c => ?_, fun c => ?_⟩
    · refine q_blocks H0.1 (by omega) ?_
      have mdbad : (¬ ∃ v, y = nI v ∧ 8 * v < cN (sc l) 512) → wp_MD_top (fun r2 M2 => post (-1) r2 M2) (nI l) y M := by
        intro hno
        simp only [forall_eq, wp_MD_top, em_join]
        refine m_in (fun _ _ => ⟨fun c => absurd c nI_10, fun _ => ⟨fun _ => hp _ _ hJ, fun d => ⟨fun _ => hp _ _ hJ, fun f => ⟨fun g => ?_, fun g => ?_⟩⟩⟩⟩) (fun c => absurd ⟨a, b⟩ c)
        · exfalso
          apply c
          have g1 := Int32.lt_iff_toInt_lt.mp g
          have g2 := mt Int32.lt_iff_toInt_lt.mpr d
          rw [Int32.toInt_zero] at g1
          rw [show (-1 : Int32).toInt = -1 by decide] at g2
          apply Int32.toInt_inj.mp
          rw [show (-1 : Int32).toInt = -1 by decide]
          omega
        · obtain ⟨v, v1, rfl⟩ := nI_of g
          rw [nI_ltI (by omega) v1] at f
          refine m_size H'.2.1 (by omega) ?_
          simp (disch := omega) only [pk_mul, nI_ltI]
          exact ⟨fun q => absurd ⟨v, rfl, q⟩ hno, fun _ => hp _ _ hJ⟩
      refine q_isWithin (fun a' b' => ⟨fun c => absurd c nI_10, fun _ => ?_⟩) (fun a' => ⟨fun _ => mdbad ?_, fun c => absurd rfl c⟩)
      · obtain ⟨v, v1, rfl⟩ := n_rng1 (by omega) a' b'
        refine q_greatestOfBlock H0.1 (by omega) (by omega) (by omega) ?_
        simp only [forall_eq, wp_MD_top, em_join]
        have nn : ¬ nI v < 0 := nI_pos (by omega)
        refine m_in (fun _ _ => ⟨fun c => absurd c nI_10, fun _ => ⟨fun d => ?_, fun d => ⟨fun f => ?_, fun f => ⟨fun g => absurd g nn, fun g => m_size H'.2.1 (by omega) ?_⟩⟩⟩⟩) (fun c => absurd ⟨a, b⟩ c)
        · exfalso
          have g1 := Int32.lt_iff_toInt_lt.mp d
          rw [nI_toInt (by omega), show (-1 : Int32).toInt = -1 by decide] at g1
          omega
        · rw [nI_ltI (by omega) (by omega)] at f
          omega
        · simp (disch := omega) only [pk_mul, nI_ltI, nI_add]
          refine ⟨fun _ => ⟨fun _ => m_topOf H'.2.1 (by omega) (by omega) (by omega) (hp _ _ hJ), fun q => absurd (nI_pos' (by omega)) q⟩, fun q => absurd (by omega) q⟩
      · rintro ⟨v, rfl, hv⟩
        exact a' (n_rng1' (by omega) (by omega))
    · refine q_greatest H0.1 (by omega) ?_
      subst c
      simp only [forall_eq, wp_MD_top, em_join]
      refine m_in (fun _ _ => ⟨fun c => absurd c nI_10, fun _ => ⟨fun d => absurd d (by decide), fun d => ⟨fun f => absurd f (by decide), fun f => ⟨fun g => ⟨fun q => absurd q (by decide), fun _ => m_topOf H'.2.1 (by omega) (by omega) (by omega) (hp _ _ hJ)⟩, fun g => absurd (by decide) g⟩⟩⟩⟩) (fun c => absurd ⟨a, b⟩ c)
  · simp only [forall_eq, wp_MD_top]
    exact m_in (fun b c => absurd ⟨b, c⟩ a) (fun _ => ⟨fun _ => hp _ _ hJ, fun c => absurd rfl c⟩)
