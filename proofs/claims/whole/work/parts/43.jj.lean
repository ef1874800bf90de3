/-! THE TIE between the class and the reference, and the calls that are short -/
theorem eu_ne {M : em_M} {k i j : Nat} {x : Int32} (h : j ≠ k) : em_up M k i x j = M j := va_up_ne _ _ h
theorem eu_eq {M : em_M} {k i : Nat} {x : Int32} : em_up M k i x k i = x := by simp [em_up, va_up_self, upd]
theorem eu_j {M : em_M} {k i j : Nat} {x : Int32} (h : j ≠ i) : em_up M k i x k j = M k j := by simp [em_up, va_up_self, upd, h]
theorem nI_10 : ¬ nI 1 = 0 := by decide
theorem n_rng {x : Int32} {lo hi : Nat} (hh : hi < 2 ^ 31) (h1 : nI lo ≤ x) (h2 : x ≤ nI hi) (hl : lo < 2 ^ 31) : ∃ v : Nat, lo ≤ v ∧ v ≤ hi ∧ x = nI v := by
  obtain ⟨j, j1, j2⟩ := nI_of2 (x := x) (M := nI hi) (n := hi) (nI_toInt hh) (fun c => by
    rw [Int32.le_iff_toInt_le, nI_toInt hl] at h1
    rw [Int32.lt_iff_toInt_lt, Int32.toInt_zero] at c
    omega) h2
  subst j2
  exact ⟨j, (nI_leI hl (by omega)).mp h1, j1, rfl⟩
def jK (ky : Nat → Int32) (M : em_M) : Prop := ∀ o, o < 512 → M 3 o = ky o ∧ M 54 o = ky o ∧ (-1000 : Int32) ≤ ky o ∧ ky o ≤ nI 1000
def jW (w : Nat) (M : em_M) : Prop := M 40 3 = nI w ∧ M 52 5 = nI w ∧ 1 ≤ w ∧ w ≤ 20
def jP (M : em_M) : Prop := (M 40 4 = 0 ∧ M 52 6 < 0) ∨ (M 40 4 = 1 ∧ ¬ M 52 6 < 0 ∧ M 40 5 = M 52 6 ∧ M 40 6 = M 52 7)
def jA (h : Nat) (M : em_M) : Prop := M 43 4 = nI h ∧ M 52 8 = nI h ∧ h ≤ 20 ∧ (∀ j, j < h → M 44 j = M 57 j ∧ M 45 j = M 58 j ∧ M 46 j = M 59 j ∧ M 47 j = M 60 j) ∧ M 0 5 = M 52 10 ∧ M 0 6 = M 52 9 ∧ (M 0 5 = 0 ∨ M 0 5 = 1) ∧ (M 0 6 = 0 ∨ M 0 6 = 1)
def jT (M : em_M) : Prop := M 48 5 = M 52 16 ∧ M 48 6 = M 52 17 ∧ M 48 7 = M 52 18 ∧ M 48 8 = M 52 19 ∧ M 48 9 = M 52 20 ∧ M 48 10 = M 52 21 ∧ M 48 11 = M 52 22 ∧ M 51 3 = M 52 23 ∧ M 51 4 = M 52 24
def J0 (sc : Nat → Nat → Nat) (so we : Nat → Nat) (ky : Nat → Int32) (w h : Nat) (M : em_M) : Prop := cS sc M ∧ mS sc M ∧ cQ so we M ∧ mQ so we M ∧ jK ky M ∧ jW w M ∧ jP M ∧ jA h M ∧ jT M
def JJ (M : em_M) : Prop := ∃ sc so we ky w h, J0 sc so we ky w h M
theorem cS_c {sc : Nat → Nat → Nat} {M M' : em_M} (h : cS sc M) (e : ∀ k, 4 ≤ k → k < 40 → M' k = M k) : cS sc M' := by
  intro l hl
  rw [e (4 + 3 * l) (by omega) (by omega), e (5 + 3 * l) (by omega) (by omega), e (6 + 3 * l) (by omega) (by omega)]
  exact h l hl
theorem mS_c {sc : Nat → Nat → Nat} {M M' : em_M} (h : mS sc M) (e : M' 53 = M 53) : mS sc M' := by
  intro l hl o ho
  rw [e]; exact h l hl o ho
theorem cQ_c {so we : Nat → Nat} {M M' : em_M} (h : cQ so we M) (e1 : M' 41 = M 41) (e2 : M' 42 = M 42) : cQ so we M' := by
  intro l hl
  rw [e1, e2]; exact h l hl
theorem mQ_c {so we : Nat → Nat} {M M' : em_M} (h : mQ so we M) (e1 : M' 55 = M 55) (e2 : M' 56 = M 56) : mQ so we M' := by
  intro l hl
  rw [e1, e2]; exact h l hl
theorem jK_c {ky : Nat → Int32} {M M' : em_M} (h : jK ky M) (e1 : M' 3 = M 3) (e2 : M' 54 = M 54) : jK ky M' := by
  intro l hl
  rw [e1, e2]; exact h l hl
theorem jW_c {w : Nat} {M M' : em_M} (h : jW w M) (e1 : M' 40 3 = M 40 3) (e2 : M' 52 5 = M 52 5) : jW w M' := by
  unfold jW at *
  rw [e1, e2]; exact h
theorem jP_c {M M' : em_M} (h : jP M) (e1 : M' 40 4 = M 40 4) (e2 : M' 40 5 = M 40 5) (e3 : M' 40 6 = M 40 6) (e4 : M' 52 6 = M 52 6) (e5 : M' 52 7 = M 52 7) : jP M' := by
  unfold jP at *
  rw [e1, e2, e3, e4, e5]; exact h
theorem jA_c {n : Nat} {M M' : em_M} (h : jA n M) (e1 : M' 43 4 = M 43 4) (e2 : M' 52 8 = M 52 8) (e3 : M' 52 9 = M 52 9) (e4 : M' 52 10 = M 52 10) (e5 : M' 0 5 = M 0 5) (e6 : M' 0 6 = M 0 6) (f1 : M' 44 = M 44) (f2 : M' 45 = M 45) (f3 : M' 46 = M 46) (f4 : M' 47 = M 47) (f5 : M' 57 = M 57) (f6 : M' 58 = M 58) (f7 : M' 59 = M 59) (f8 : M' 60 = M 60) : jA n M' := by
  unfold jA at *
  rw [e1, e2, e3, e4, e5, e6, f1, f2, f3, f4, f5, f6, f7, f8]; exact h
theorem jT_c {M M' : em_M} (h : jT M) (e0 : M' 48 = M 48) (e1 : M' 51 = M 51) (e2 : ∀ j, 16 ≤ j → M' 52 j = M 52 j) : jT M' := by
  unfold jT at *
  rw [e0, e1, e2 16 (by omega), e2 17 (by omega), e2 18 (by omega), e2 19 (by omega), e2 20 (by omega), e2 21 (by omega), e2 22 (by omega), e2 23 (by omega), e2 24 (by omega)]; exact h
theorem J0_thr {sc : Nat → Nat → Nat} {so we : Nat → Nat} {ky : Nat → Int32} {w h : Nat} {M : em_M} {x : Int32} (H : J0 sc so we ky w h M) : J0 sc so we ky w h (em_up M 52 0 x) := by
  obtain ⟨a1, a2, a3, a4, a5, a6, a7, a8, a9⟩ := H
  exact ⟨cS_c a1 (fun k _ _ => by simp (disch := omega) only [eu_ne]), mS_c a2 (by simp (disch := omega) only [eu_ne, eu_j, eu_eq]), cQ_c a3 (by simp (disch := omega) only [eu_ne, eu_j, eu_eq]) (by simp (disch := omega) only [eu_ne, eu_j, eu_eq]), mQ_c a4 (by simp (disch := omega) only [eu_ne, eu_j, eu_eq]) (by simp (disch := omega) only [eu_ne, eu_j, eu_eq]), jK_c a5 (by simp (disch := omega) only [eu_ne, eu_j, eu_eq]) (by simp (disch := omega) only [eu_ne, eu_j, eu_eq]), jW_c a6 (by simp (disch := omega) only [eu_ne, eu_j, eu_eq]) (by simp (disch := omega) only [eu_ne, eu_j, eu_eq]), jP_c a7 (by simp (disch := omega) only [eu_ne, eu_j, eu_eq]) (by simp (disch := omega) only [eu_ne, eu_j, eu_eq]) (by simp (disch := omega) only [eu_ne, eu_j, eu_eq]) (by simp (disch := omega) only [eu_ne, eu_j, eu_eq]) (by simp (disch := omega) only [eu_ne, eu_j, eu_eq]), jA_c a8 (by simp (disch := omega) only [eu_ne, eu_j, eu_eq]) (by simp (disch := omega) only [eu_ne, eu_j, eu_eq]) (by simp (disch := omega) only [eu_ne, eu_j, eu_eq]) (by simp (disch := omega) only [eu_ne, eu_j, eu_eq]) (by simp (disch := omega) only [eu_ne, eu_j, eu_eq]) (by simp (disch := omega) only [eu_ne, eu_j, eu_eq]) (by simp (disch := omega) only [eu_ne, eu_j, eu_eq]) (by simp (disch := omega) only [eu_ne, eu_j, eu_eq]) (by simp (disch := omega) only [eu_ne, eu_j, eu_eq]) (by simp (disch := omega) only [eu_ne, eu_j, eu_eq]) (by simp (disch := omega) only [eu_ne, eu_j, eu_eq]) (by simp (disch := omega) only [eu_ne, eu_j, eu_eq]) (by simp (disch := omega) only [eu_ne, eu_j, eu_eq]) (by simp (disch := omega) only [eu_ne, eu_j, eu_eq]), jT_c a9 (by simp (disch := omega) only [eu_ne, eu_j, eu_eq]) (by simp (disch := omega) only [eu_ne, eu_j, eu_eq]) (fun j _ => by simp (disch := omega) only [eu_ne, eu_j])⟩
theorem JJ_thr {M : em_M} {x : Int32} (H : JJ M) : JJ (em_up M 52 0 x) := by
  obtain ⟨sc, so, we, ky, w, h, H⟩ := H
  exact ⟨sc, so, we, ky, w, h, J0_thr H⟩
theorem op_wanted {x : Int32} {M : em_M} {post : Int32 → Int32 → em_M → Prop} (H : JJ M) (hp : ∀ r M2, JJ M2 → post r r M2) : wp_BE_wanted (fun r M1 => wp_MD_wanted (fun r2 M2 => post r r2 M2) x M1) x M := by
  unfold wp_BE_wanted
  refine q_isWithin (fun a b => ⟨fun _ => ?_, fun c => absurd c nI_10⟩) (fun a => ⟨fun c => absurd rfl c, fun _ => ?_⟩)
  · simp only [forall_eq, wp_MD_wanted]
    refine m_in (fun _ _ => ⟨fun _ => ?_, fun c => absurd c nI_10⟩) (fun c => absurd ⟨a, b⟩ c)
    obtain ⟨v, v1, v2, rfl⟩ := n_rng (by omega) a b (by omega)
    obtain ⟨sc, so, we, ky, w, h, a1, a2, a3, a4, a5, a6, a7, a8, a9⟩ := H
    have e : (em_up (em_up M 40 3 (nI v)) 52 0 (nI 0)) 52 5 = M 40 3 := by
      simp (disch := omega) only [eu_ne, eu_j]
      rw [a6.1, a6.2.1]
    rw [e]
    exact hp _ _ ⟨sc, so, we, ky, v, h, cS_c a1 (fun k _ _ => by simp (disch := omega) only [eu_ne]), mS_c a2 (by simp (disch := omega) only [eu_ne, eu_j, eu_eq]), cQ_c a3 (by simp (disch := omega) only [eu_ne, eu_j, eu_eq]) (by simp (disch := omega) only [eu_ne, eu_j, eu_eq]), mQ_c a4 (by simp (disch := omega) only [eu_ne, eu_j, eu_eq]) (by simp (disch := omega) only [eu_ne, eu_j, eu_eq]), jK_c a5 (by simp (disch := omega) only [eu_ne, eu_j, eu_eq]) (by simp (disch := omega) only [eu_ne, eu_j, eu_eq]), ⟨(by simp (disch := omega) only [eu_ne, eu_j, eu_eq]), (by simp (disch := omega) only [eu_ne, eu_j, eu_eq]), v1, v2⟩, jP_c a7 (by simp (disch := omega) only [eu_ne, eu_j, eu_eq]) (by simp (disch := omega) only [eu_ne, eu_j, eu_eq]) (by simp (disch := omega) only [eu_ne, eu_j, eu_eq]) (by simp (disch := omega) only [eu_ne, eu_j, eu_eq]) (by simp (disch := omega) only [eu_ne, eu_j, eu_eq]), jA_c a8 (by simp (disch := omega) only [eu_ne, eu_j, eu_eq]) (by simp (disch := omega) only [eu_ne, eu_j, eu_eq]) (by simp (disch := omega) only [eu_ne, eu_j, eu_eq]) (by simp (disch := omega) only [eu_ne, eu_j, eu_eq]) (by simp (disch := omega) only [eu_ne, eu_j, eu_eq]) (by simp (disch := omega) only [eu_ne, eu_j, eu_eq]) (by simp (disch := omega) only [eu_ne, eu_j, eu_eq]) (by simp (disch := omega) only [eu_ne, eu_j, eu_eq]) (by simp (disch := omega) only [eu_ne, eu_j, eu_eq]) (by simp (disch := omega) only [eu_ne, eu_j, eu_eq]) (by simp (disch := omega) only [eu_ne, eu_j, eu_eq]) (by simp (disch := omega) only [eu_ne, eu_j, eu_eq]) (by simp (disch := omega) only [eu_ne, eu_j, eu_eq]) (by simp (disch := omega) only [eu_ne, eu_j, eu_eq]), jT_c a9 (by simp (disch := omega) only [eu_ne, eu_j, eu_eq]) (by simp (disch := omega) only [eu_ne, eu_j, eu_eq]) (fun j _ => by simp (disch := omega) only [eu_ne, eu_j])⟩
  · simp only [forall_eq, wp_MD_wanted]
    exact m_in (fun b c => absurd ⟨b, c⟩ a) (fun _ => ⟨fun c => absurd rfl c, fun _ => hp _ _ (JJ_thr H)⟩)
theorem op_key {x y : Int32} {M : em_M} {post : Int32 → Int32 → em_M → Prop} (H : JJ M) (hp : ∀ r M2, JJ M2 → post r r M2) : wp_BE_key (fun r M1 => wp_MD_key (fun r2 M2 => post r r2 M2) x y M1) x y M := by
  unfold wp_BE_key
  refine q_isObject (fun a b => ⟨fun c => absurd c nI_10, fun _ => ?_⟩) (fun a => ⟨fun _ => ?_, fun c => absurd rfl c⟩)
  · refine q_isWithin (fun a' b' => ⟨fun _ => ?_, fun c => absurd c nI_10⟩) (fun a' => ⟨fun c => absurd rfl c, fun _ => ?_⟩)
    · obtain ⟨v, v1, v2, rfl⟩ := n_rng (by omega) a b (by omega)
      simp (disch := omega) only [forall_eq, wp_MD_key, n_in, nI_clamp]
      refine ⟨by omega, m_in (fun _ _ => ⟨fun c => absurd c nI_10, fun _ => m_in (fun _ _ => ⟨fun _ => ⟨by omega, ?_⟩, fun c => absurd c nI_10⟩) (fun c => absurd ⟨a', b'⟩ c)⟩) (fun c => absurd ⟨a, b⟩ c)⟩
      obtain ⟨sc, so, we, ky, w, h, a1, a2, a3, a4, a5, a6, a7, a8, a9⟩ := H
      have e : (em_up (em_up M 3 v y) 52 0 (nI 0)) 54 v = M 3 v := by
        simp (disch := omega) only [eu_ne, eu_j]
        rw [(a5 v (by omega)).1, (a5 v (by omega)).2.1]
      rw [e]
      refine hp _ _ ⟨sc, so, we, fun o => if o = v then y else ky o, w, h, cS_c a1 (fun k _ _ => by simp (disch := omega) only [eu_ne]), mS_c a2 (by simp (disch := omega) only [eu_ne, eu_j, eu_eq]), cQ_c a3 (by simp (disch := omega) only [eu_ne, eu_j, eu_eq]) (by simp (disch := omega) only [eu_ne, eu_j, eu_eq]), mQ_c a4 (by simp (disch := omega) only [eu_ne, eu_j, eu_eq]) (by simp (disch := omega) only [eu_ne, eu_j, eu_eq]), fun o ho => ?_, jW_c a6 (by simp (disch := omega) only [eu_ne, eu_j, eu_eq]) (by simp (disch := omega) only [eu_ne, eu_j, eu_eq]), jP_c a7 (by simp (disch := omega) only [eu_ne, eu_j, eu_eq]) (by simp (disch := omega) only [eu_ne, eu_j, eu_eq]) (by simp (disch := omega) only [eu_ne, eu_j, eu_eq]) (by simp (disch := omega) only [eu_ne, eu_j, eu_eq]) (by simp (disch := omega) only [eu_ne, eu_j, eu_eq]), jA_c a8 (by simp (disch := omega) only [eu_ne, eu_j, eu_eq]) (by simp (disch := omega) only [eu_ne, eu_j, eu_eq]) (by simp (disch := omega) only [eu_ne, eu_j, eu_eq]) (by simp (disch := omega) only [eu_ne, eu_j, eu_eq]) (by simp (disch := omega) only [eu_ne, eu_j, eu_eq]) (by simp (disch := omega) only [eu_ne, eu_j, eu_eq]) (by simp (disch := omega) only [eu_ne, eu_j, eu_eq]) (by simp (disch := omega) only [eu_ne, eu_j, eu_eq]) (by simp (disch := omega) only [eu_ne, eu_j, eu_eq]) (by simp (disch := omega) only [eu_ne, eu_j, eu_eq]) (by simp (disch := omega) only [eu_ne, eu_j, eu_eq]) (by simp (disch := omega) only [eu_ne, eu_j, eu_eq]) (by simp (disch := omega) only [eu_ne, eu_j, eu_eq]) (by simp (disch := omega) only [eu_ne, eu_j, eu_eq]), jT_c a9 (by simp (disch := omega) only [eu_ne, eu_j, eu_eq]) (by simp (disch := omega) only [eu_ne, eu_j, eu_eq]) (fun j _ => by simp (disch := omega) only [eu_ne, eu_j])⟩
      by_cases q : o = v
      · subst q
        simp (disch := omega) only [eu_ne, eu_eq, if_true]
        exact ⟨trivial, trivial, a', b'⟩
      · simp (disch := omega) only [eu_ne, eu_j, if_neg q]
        exact a5 o ho
    · simp only [forall_eq, wp_MD_key]
      exact m_in (fun _ _ => ⟨fun c => absurd c nI_10, fun _ => m_in (fun b c => absurd ⟨b, c⟩ a') (fun _ => ⟨fun c => absurd rfl c, fun _ => hp _ _ (JJ_thr H)⟩)⟩) (fun c => absurd ⟨a, b⟩ c)
  · simp only [forall_eq, wp_MD_key]
    exact m_in (fun b c => absurd ⟨b, c⟩ a) (fun _ => ⟨fun _ => hp _ _ (JJ_thr H), fun c => absurd rfl c⟩)
theorem op_ask {x y z : Int32} {M : em_M} {post : Int32 → Int32 → em_M → Prop} (H : JJ M) (hp : ∀ r M2, JJ M2 → post r r M2) : wp_BE_ask (fun r M1 => wp_MD_ask (fun r2 M2 => post r r2 M2) x y z M1) x y z M := by
  unfold wp_BE_ask
  refine q_isList (fun a b => ⟨fun c => absurd c nI_10, fun _ => ?_⟩) (fun a => ⟨fun _ => ?_, fun c => absurd rfl c⟩)
  · refine q_isWithin (fun a' b' => ⟨fun c => absurd c nI_10, fun _ => ?_⟩) (fun a' => ⟨fun _ => ?_, fun c => absurd rfl c⟩)
    · refine q_isWithin (fun a2 b2 => ⟨fun _ => ?_, fun c => absurd c nI_10⟩) (fun a2 => ⟨fun c => absurd rfl c, fun _ => ?_⟩)
      · obtain ⟨v, v1, v2, rfl⟩ := n_rng (by omega) a b (by omega)
        obtain ⟨s, s1, s2, rfl⟩ := n_rng (by omega) a' b' (by omega)
        obtain ⟨t, t1, t2, rfl⟩ := n_rng (by omega) a2 b2 (by omega)
        simp (disch := omega) only [forall_eq, wp_MD_ask, n_in, nI_clamp]
        refine ⟨by omega, m_in (fun _ _ => ⟨fun c => absurd c nI_10, fun _ => m_in (fun _ _ => ⟨fun c => absurd c nI_10, fun _ => m_in (fun _ _ => ⟨fun _ => ⟨by omega, ?_⟩, fun c => absurd c nI_10⟩) (fun c => absurd ⟨a2, b2⟩ c)⟩) (fun c => absurd ⟨a', b'⟩ c)⟩) (fun c => absurd ⟨a, b⟩ c)⟩
        obtain ⟨sc, so, we, ky, w, h, a1, a2, a3, a4, a5, a6, a7, a8, a9⟩ := H
        have e1 : (em_up (em_up (em_up M 41 v (nI s)) 42 v (nI t)) 52 0 (nI 0)) 56 v = M 42 v := by
          simp (disch := omega) only [eu_ne, eu_j]
          rw [(a3 v (by omega)).2.2.1, (a4 v (by omega)).2.2.1]
        have e2 : (em_up (em_up (em_up M 41 v (nI s)) 42 v (nI t)) 52 0 (nI 0)) 55 v = M 41 v := by
          simp (disch := omega) only [eu_ne, eu_j]
          rw [(a3 v (by omega)).1, (a4 v (by omega)).1]
        rw [e1, e2]
        refine hp _ _ ⟨sc, fun l => if l = v then s else so l, fun l => if l = v then t else we l, ky, w, h, cS_c a1 (fun k _ _ => by simp (disch := omega) only [eu_ne]), mS_c a2 (by simp (disch := omega) only [eu_ne, eu_j, eu_eq]), fun l hl => ?_, fun l hl => ?_, jK_c a5 (by simp (disch := omega) only [eu_ne, eu_j, eu_eq]) (by simp (disch := omega) only [eu_ne, eu_j, eu_eq]), jW_c a6 (by simp (disch := omega) only [eu_ne, eu_j, eu_eq]) (by simp (disch := omega) only [eu_ne, eu_j, eu_eq]), jP_c a7 (by simp (disch := omega) only [eu_ne, eu_j, eu_eq]) (by simp (disch := omega) only [eu_ne, eu_j, eu_eq]) (by simp (disch := omega) only [eu_ne, eu_j, eu_eq]) (by simp (disch := omega) only [eu_ne, eu_j, eu_eq]) (by simp (disch := omega) only [eu_ne, eu_j, eu_eq]), jA_c a8 (by simp (disch := omega) only [eu_ne, eu_j, eu_eq]) (by simp (disch := omega) only [eu_ne, eu_j, eu_eq]) (by simp (disch := omega) only [eu_ne, eu_j, eu_eq]) (by simp (disch := omega) only [eu_ne, eu_j, eu_eq]) (by simp (disch := omega) only [eu_ne, eu_j, eu_eq]) (by simp (disch := omega) only [eu_ne, eu_j, eu_eq]) (by simp (disch := omega) only [eu_ne, eu_j, eu_eq]) (by simp (disch := omega) only [eu_ne, eu_j, eu_eq]) (by simp (disch := omega) only [eu_ne, eu_j, eu_eq]) (by simp (disch := omega) only [eu_ne, eu_j, eu_eq]) (by simp (disch := omega) only [eu_ne, eu_j, eu_eq]) (by simp (disch := omega) only [eu_ne, eu_j, eu_eq]) (by simp (disch := omega) only [eu_ne, eu_j, eu_eq]) (by simp (disch := omega) only [eu_ne, eu_j, eu_eq]), jT_c a9 (by simp (disch := omega) only [eu_ne, eu_j, eu_eq]) (by simp (disch := omega) only [eu_ne, eu_j, eu_eq]) (fun j _ => by simp (disch := omega) only [eu_ne, eu_j])⟩
        · by_cases q : l = v
          · subst q
            simp (disch := omega) only [eu_ne, eu_eq, if_true]
            exact ⟨trivial, s2, trivial, t1, t2⟩
          · simp (disch := omega) only [eu_ne, eu_j, if_neg q]
            exact a3 l hl
        · by_cases q : l = v
          · subst q
            simp (disch := omega) only [eu_ne, eu_eq, if_true]
            exact ⟨trivial, s2, trivial, t1, t2⟩
          · simp (disch := omega) only [eu_ne, eu_j, if_neg q]
            exact a4 l hl
      · simp only [forall_eq, wp_MD_ask]
        exact m_in (fun _ _ => ⟨fun c => absurd c nI_10, fun _ => m_in (fun _ _ => ⟨fun c => absurd c nI_10, fun _ => m_in (fun b c => absurd ⟨b, c⟩ a2) (fun _ => ⟨fun c => absurd rfl c, fun _ => hp _ _ (JJ_thr H)⟩)⟩) (fun c => absurd ⟨a', b'⟩ c)⟩) (fun c => absurd ⟨a, b⟩ c)
    · simp only [forall_eq, wp_MD_ask]
      exact m_in (fun _ _ => ⟨fun c => absurd c nI_10, fun _ => m_in (fun b c => absurd ⟨b, c⟩ a') (fun _ => ⟨fun _ => hp _ _ (JJ_thr H), fun c => absurd rfl c⟩)⟩) (fun c => absurd ⟨a, b⟩ c)
  · simp only [forall_eq, wp_MD_ask]
    exact m_in (fun b c => absurd ⟨b, c⟩ a) (fun _ => ⟨fun _ => hp _ _ (JJ_thr H), fun c => absurd rfl c⟩)
theorem op_fits {x : Int32} {M : em_M} {post : Int32 → Int32 → em_M → Prop} (H : JJ M) (hp : ∀ r M2, JJ M2 → post r r M2) : wp_BE_fits (fun r => wp_MD_fits (fun r2 M2 => post r r2 M2) x M) x M := by
  unfold wp_BE_fits
  refine q_isObject (fun a b => ⟨fun _ => ?_, fun c => absurd c nI_10⟩) (fun a => ⟨fun c => absurd rfl c, fun _ => ?_⟩)
  · obtain ⟨v, v1, v2, rfl⟩ := n_rng (by omega) a b (by omega)
    obtain ⟨sc, so, we, ky, w, h, H⟩ := H
    have H' := J0_thr (x := nI 0) H
    have hJ : JJ (em_up M 52 0 (nI 0)) := ⟨sc, so, we, ky, w, h, H'⟩
    refine q_admits H.1 H.2.2.1 (by omega) ?_
    simp only [forall_eq, wp_MD_fits, bI_0]
    refine ⟨fun c => m_in (fun _ _ => ⟨fun _ => m_isFit H'.2.1 H'.2.2.2.1 (by omega) ?_, fun c => absurd c nI_10⟩) (fun c => absurd ⟨a, b⟩ c), fun c => m_in (fun _ _ => ⟨fun _ => m_isFit H'.2.1 H'.2.2.2.1 (by omega) ?_, fun c => absurd c nI_10⟩) (fun c => absurd ⟨a, b⟩ c)⟩
    · rw [bI_0]
      exact ⟨fun _ => hp _ _ hJ, fun d => absurd c d⟩
    · rw [bI_0]
      exact ⟨fun d => absurd d c, fun _ => hp _ _ hJ⟩
  · simp only [forall_eq, wp_MD_fits]
    exact m_in (fun b c => absurd ⟨b, c⟩ a) (fun _ => ⟨fun c => absurd rfl c, fun _ => hp _ _ (JJ_thr H)⟩)
theorem op_sum {x : Int32} {M : em_M} {post : Int32 → Int32 → em_M → Prop} (H : JJ M) (hp : ∀ r M2, JJ M2 → post r r M2) : wp_BE_sum (fun r => wp_MD_sum (fun r2 M2 => post r r2 M2) x M) x M := by
  unfold wp_BE_sum
  refine q_isObject (fun a b => ⟨fun c => absurd c nI_10, fun _ => ?_⟩) (fun a => ⟨fun _ => ?_, fun c => absurd rfl c⟩)
  · obtain ⟨v, v1, v2, rfl⟩ := n_rng (by omega) a b (by omega)
    obtain ⟨sc, so, we, ky, w, h, H⟩ := H
    have H' := J0_thr (x := nI 0) H
    refine q_sumOf H.1 H.2.2.1 (by omega) ?_
    simp only [forall_eq, wp_MD_sum]
    exact m_in (fun _ _ => ⟨fun _ => m_sumOf H'.2.1 H'.2.2.2.1 (by omega) (hp _ _ ⟨sc, so, we, ky, w, h, H'⟩), fun c => absurd c nI_10⟩) (fun c => absurd ⟨a, b⟩ c)
  · simp only [forall_eq, wp_MD_sum]
    exact m_in (fun b c => absurd ⟨b, c⟩ a) (fun _ => ⟨fun c => absurd rfl c, fun _ => hp _ _ (JJ_thr H)⟩)
theorem op_told {x : Int32} {M : em_M} {post : Int32 → Int32 → em_M → Prop} (H : JJ M) (hp : ∀ r M2, JJ M2 → post r r M2) : wp_BE_told (fun r => wp_MD_told (fun r2 M2 => post r r2 M2) x M) x M := by
  obtain ⟨sc, so, we, ky, w, h, a1, a2, a3, a4, a5, a6, a7, a8, a9⟩ := id H
  obtain ⟨t0, t1, t2, t3, t4, t5, t6, t7, t8⟩ := a9
  have hJ := JJ_thr (x := nI 0) H
  have hno : ∀ {a b : Nat}, a < 9 → b < 9 → a ≠ b → nI a = nI b → False := fun ha hb hn e => hn ((nI_eq (by omega) (by omega)).mp e)
  have hin : ∀ {a : Nat}, a < 9 → (nI a < nI 0 ∨ nI 9 ≤ nI a) → False := by
    intro a ha h
    rw [nI_ltI (by omega) (by omega), nI_leI (by omega) (by omega)] at h
    omega
  simp (disch := omega) only [wp_BE_told, wp_MD_told, forall_eq, eu_j]
  refine ⟨fun c => ⟨fun _ => hp _ _ hJ, ?_⟩, ?_⟩
  · refine ⟨fun e => ?_, fun e => ?_, fun e => ?_, fun e => ?_, fun e => ?_, fun e => ?_, fun e => ?_, fun e => ?_, fun e => ?_⟩ <;> (rw [e] at c; exact (hin (by omega) c).elim)
  · rw [t0, t1, t2, t3, t4, t5, t6, t7, t8]
    refine ⟨fun e => ?_, fun e => ?_, fun e => ?_, fun e => ?_, fun e => ?_, fun e => ?_, fun e => ?_, fun e => ?_, fun e => ?_⟩ <;> subst e <;>
      refine ⟨fun c => (hin (by omega) c).elim, fun f => ?_, fun f => ?_, fun f => ?_, fun f => ?_, fun f => ?_, fun f => ?_, fun f => ?_, fun f => ?_, fun f => ?_⟩ <;> first | exact hp _ _ hJ | exact (hno (by omega) (by omega) (by omega) f).elim
