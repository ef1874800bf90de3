/-! WALK -/
def jpW (sc : Nat → Nat → Nat) (s : WS) (r : Nat) : WS := (jS sc s.1 r, s.2.1, s.2.2.1, s.2.2.2.1, s.2.2.2.2.1, s.2.2.2.2.2.1 + smN (jP1 sc s.1 r) 12, s.2.2.2.2.2.2)
def gW (sc : Nat → Nat → Nat) (so we : Nat → Nat) (ky : Nat → Int32) (w : Nat) (bq : Nat → Bool) (q : Nat) (s : WS) : WS := (dS sc s.1 q, hW sc so we ky w bq q s.2.1, s.2.2.1, s.2.2.2.1 + 1, s.2.2.2.2.1, s.2.2.2.2.2.1, s.2.2.2.2.2.2)
def okW (sc : Nat → Nat → Nat) (so : Nat → Nat) (w : Nat) (s : WS) : Prop := lS sc so s.1 ∧ s.2.1.2 ≤ w ∧ s.2.2.2.2.2.2 ≤ 2
theorem jp_ok {sc : Nat → Nat → Nat} {so : Nat → Nat} {w r : Nat} {s : WS} (h : okW sc so w s) (hr : r ≤ 512) : okW sc so w (jpW sc s r) := ⟨lS_j h.1 hr, h.2.1, h.2.2⟩
theorem jp_st {sc : Nat → Nat → Nat} {r : Nat} {s : WS} : (jpW sc s r).2.2.1 = s.2.2.1 := rfl
theorem jp_en {sc : Nat → Nat → Nat} {r : Nat} {s : WS} : (jpW sc s r).2.2.2.2.2.2 = s.2.2.2.2.2.2 := rfl
def skW (s : WS) : WS := (s.1, s.2.1, s.2.2.1, s.2.2.2.1, s.2.2.2.2.1 + 1, s.2.2.2.2.2.1, s.2.2.2.2.2.2)
theorem sk_ok {sc : Nat → Nat → Nat} {so : Nat → Nat} {w : Nat} {s : WS} (h : okW sc so w s) : okW sc so w (skW s) := h
theorem sk_st {s : WS} : (skW s).2.2.1 = s.2.2.1 := rfl
theorem sk_en {s : WS} : (skW s).2.2.2.2.2.2 = s.2.2.2.2.2.2 := rfl
theorem sk_S {s : WS} : (skW s).1 = s.1 := rfl
theorem g_st {sc : Nat → Nat → Nat} {so we : Nat → Nat} {ky : Nat → Int32} {w : Nat} {bq : Nat → Bool} {q : Nat} {s : WS} : (gW sc so we ky w bq q s).2.2.1 = s.2.2.1 := rfl
theorem g_en {sc : Nat → Nat → Nat} {so we : Nat → Nat} {ky : Nat → Int32} {w : Nat} {bq : Nat → Bool} {q : Nat} {s : WS} : (gW sc so we ky w bq q s).2.2.2.2.2.2 = s.2.2.2.2.2.2 := rfl
theorem g_ok {sc : Nat → Nat → Nat} {so we : Nat → Nat} {ky : Nat → Int32} {w : Nat} {bq : Nat → Bool} {q : Nat} {s : WS} (h : okW sc so w s) (hq : q < 512) : okW sc so w (gW sc so we ky w bq q s) := ⟨lS_d h.1 hq, hW_le h.2.1, h.2.2⟩
theorem q_jumpAllW {post : em_M → Prop} {sc : Nat → Nat → Nat} {so we : Nat → Nat} {w : Nat} {M0 M : em_M} (s : WS) (r : Nat) (hS : cS sc M0) (hQ : cQ so we M0) (hs : lS sc so s.1) (hr : r ≤ 512) (H : cW sc so we w M0 s M) (hp : ∀ M', cW sc so we w M0 (jpW sc s r) M' → post M') : wp_LW_jumpAll post (nI r) M := q_jumpAll hS hQ hs hr H hp
theorem m_jumpAllW {post : em_M → Prop} {sc : Nat → Nat → Nat} {so we : Nat → Nat} {x : Int32} {M0 M : em_M} (s : WS) (r : Nat) (hS : mS sc M0) (hQ : mQ so we M0) (hs : lS sc so s.1) (hr : r ≤ 512) (H : mW so M0 x s M) (hp : ∀ M', mW so M0 x (jpW sc s r) M' → post M') : wp_MD_jumpAll post (nI r) M := m_jumpAll hS hQ hs hr H hp
theorem q_judgeW {post : em_M → Prop} {sc : Nat → Nat → Nat} {so we : Nat → Nat} {ky : Nat → Int32} {w : Nat} {M0 M : em_M} (s : WS) (q : Nat) (hS : cS sc M0) (hQ : cQ so we M0) (hK : ∀ o, o < 512 → M0 3 o = ky o) (hP : jP M0) (hw1 : 1 ≤ w) (hw : w ≤ 20) (hn : s.2.1.2 ≤ w) (hs : lS sc so s.1) (hq : q < 512) (H : cW sc so we w M0 s M)
    (hp : ∀ M', cW sc so we w M0 (gW sc so we ky w (fun q => bhB M0 (nI (smS sc so we q)) (nI q)) q s) M' → post M') : wp_LW_judge post (nI q) M := q_judge hS hQ hK hP hw1 hw hn hs hq H hp
theorem m_judgeW {post : em_M → Prop} {sc : Nat → Nat → Nat} {so we : Nat → Nat} {ky : Nat → Int32} {w : Nat} {x : Int32} {M0 M : em_M} (s : WS) (q : Nat) (hS : mS sc M0) (hQ : mQ so we M0) (hK : ∀ o, o < 512 → M0 54 o = ky o) (hw0 : M0 52 5 = nI w) (hw1 : 1 ≤ w) (hw : w ≤ 20) (hn : s.2.1.2 ≤ w) (hs : lS sc so s.1) (hq : q < 512) (H : mW so M0 x s M)
    (hp : ∀ M', mW so M0 x (gW sc so we ky w (fun q => bhB M0 (nI (smS sc so we q)) (nI q)) q s) M' → post M') : wp_MD_judge post (nI q) M := m_judge hS hQ hK hw0 hw1 hw hn hs hq H hp
def stepF (sc : Nat → Nat → Nat) (so we : Nat → Nat) (ky : Nat → Int32) (w : Nat) (bq : Nat → Bool) (f : Int32) (q : Nat) (s : WS) : WS :=
  if q = 512 then (s.1, s.2.1, s.2.2.1, s.2.2.2.1, s.2.2.2.2.1, s.2.2.2.2.2.1, 1) else if q < gnN so s.1 12 then jpW sc s (gnN so s.1 12) else if nI (smN (bbN sc we s.1 q) 12) ≤ f then jpW sc (skW s) (ebN sc s.1 q 12) else if lsN s.1 12 < q then jpW sc s q else gW sc so we ky w bq q s
def stepW (sc : Nat → Nat → Nat) (so we : Nat → Nat) (ky : Nat → Int32) (w : Nat) (bq : Nat → Bool) (s : WS) : WS :=
  if atE so s.1 = true then (s.1, s.2.1, s.2.2.1, s.2.2.2.1, s.2.2.2.2.1, s.2.2.2.2.2.1, 0) else stepF sc so we ky w bq (fl s.2.1 w) (pvN s.1 (Bd sc we) (fl s.2.1 w) 12) s
theorem okW_step {sc : Nat → Nat → Nat} {so we : Nat → Nat} {ky : Nat → Int32} {w : Nat} {bq : Nat → Bool} {s : WS} (h : okW sc so w s) : okW sc so w (stepW sc so we ky w bq s) ∧ (stepW sc so we ky w bq s).2.2.1 = s.2.2.1 := by
  have hg := gnN_le h.1 (Nat.le_refl 12)
  have hq := pvN_le (S := s.1) (B := Bd sc we) (f := fl s.2.1 w) 12
  unfold stepW
  by_cases c : atE so s.1 = true
  · rw [if_pos c]; exact ⟨⟨h.1, h.2.1, Nat.zero_le _⟩, rfl⟩
  · rw [if_neg c]
    generalize pvN s.1 (Bd sc we) (fl s.2.1 w) 12 = q at hq
    have hb := ebN_le (sc := sc) (S := s.1) (q := q) 12
    unfold stepF
    by_cases c1 : q = 512
    · rw [if_pos c1]; exact ⟨⟨h.1, h.2.1, by show 1 ≤ 2; omega⟩, rfl⟩
    · rw [if_neg c1]
      by_cases c2 : q < gnN so s.1 12
      · rw [if_pos c2]; exact ⟨jp_ok h hg, jp_st⟩
      · rw [if_neg c2]
        by_cases c3 : nI (smN (bbN sc we s.1 q) 12) ≤ fl s.2.1 w
        · rw [if_pos c3]; exact ⟨jp_ok (sk_ok h) hb, jp_st.trans sk_st⟩
        · rw [if_neg c3]
          by_cases c4 : lsN s.1 12 < q
          · rw [if_pos c4]; exact ⟨jp_ok h hq, jp_st⟩
          · rw [if_neg c4]; exact ⟨g_ok h (by omega), g_st⟩
theorem cW_up {sc : Nat → Nat → Nat} {so we : Nat → Nat} {w j : Nat} {y : Int32} {M0 M : em_M} {s s' : WS} (H : cW sc so we w M0 s M) (e1 : s'.1 = s.1) (e2 : s'.2.1 = s.2.1) (h5 : em_up M 48 j y 48 5 = nI s'.2.2.1) (h6 : em_up M 48 j y 48 6 = nI s'.2.2.2.1) (h7 : em_up M 48 j y 48 7 = nI s'.2.2.2.2.1) (h8 : em_up M 48 j y 48 8 = nI s'.2.2.2.2.2.1) (h9 : em_up M 48 j y 48 9 = nI s'.2.2.2.2.2.2) : cW sc so we w M0 s' (em_up M 48 j y) := by
  obtain ⟨a1, a2, a3, a4, a5, -⟩ := H
  refine ⟨fun c hc => by rw [eu_ne (by omega)]; exact a1 c hc, ⟨by rw [eu_ne (by omega), e2]; exact a2.1, fun i hi => ?_⟩, by rw [eu_ne (by omega)]; exact a3, fun l hl ha => by rw [eu_ne (by omega), e1]; exact a4 l hl ha, fun l hl => by rw [eu_ne (by omega)]; exact a5 l hl, h5, h6, h7, h8, h9⟩
  have e : rC (em_up M 48 j y) i = rC M i := by
    unfold rC
    simp (disch := omega) only [eu_ne]
  rw [e, e2]
  rw [e2] at hi
  exact a2.2 i hi
theorem mW_up {so : Nat → Nat} {j : Nat} {x x' y : Int32} {M0 M : em_M} {s s' : WS} (H : mW so M0 x s M) (j1 : 16 ≤ j) (j2 : j ≤ 22) (e1 : s'.1 = s.1) (e2 : s'.2.1 = s.2.1) (h5 : em_up M 52 j y 52 16 = nI s'.2.2.1) (h6 : em_up M 52 j y 52 17 = nI s'.2.2.2.1) (h7 : em_up M 52 j y 52 18 = nI s'.2.2.2.2.1) (h8 : em_up M 52 j y 52 19 = nI s'.2.2.2.2.2.1) (h9 : em_up M 52 j y 52 20 = x') : mW so M0 x' s' (em_up M 52 j y) := by
  obtain ⟨a1, a2, a3, a4, a5, a6, -⟩ := H
  refine ⟨fun c c1 c2 c3 c4 c5 c6 => by rw [eu_ne c1]; exact a1 c c1 c2 c3 c4 c5 c6, fun i i1 i2 i3 i4 i5 => by rw [eu_j (by omega)]; exact a2 i i1 i2 i3 i4 i5, ⟨by rw [eu_j (by omega), e2]; exact a3.1, fun i hi => ?_⟩, by rw [eu_j (by omega)]; exact a4, by rw [eu_j (by omega)]; exact a5, fun l hl ha => by rw [eu_ne (by omega), e1]; exact a6 l hl ha, h5, h6, h7, h8, h9⟩
  have e : rM (em_up M 52 j y) i = rM M i := by
    unfold rM
    simp (disch := omega) only [eu_ne]
  rw [e, e2]
  rw [e2] at hi
  exact a3.2 i hi
theorem q_step {post : em_M → Prop} {sc : Nat → Nat → Nat} {so we : Nat → Nat} {ky : Nat → Int32} {w : Nat} {M0 M : em_M} {s : WS} (hS : cS sc M0) (hQ : cQ so we M0) (hK : ∀ o, o < 512 → M0 3 o = ky o) (hP : jP M0) (hw1 : 1 ≤ w) (hw : w ≤ 20) (ok : okW sc so w s) (H : cW sc so we w M0 s M)
    (hp : ∀ M', cW sc so we w M0 (stepW sc so we ky w (fun q => bhB M0 (nI (smS sc so we q)) (nI q)) s) M' → post M') : wp_LW_step post M := by
  obtain ⟨hs, hn, he⟩ := ok
  obtain ⟨a1, a2, a3, a4, a5, b1, b2, b3, b4, b5⟩ := id H
  have hS1 := cW_S H hS
  have hQ1 := cW_Q H hQ
  simp only [wp_LW_step, forall_eq]
  refine q_isAtEnd hS1 hQ1 hs a4 ?_
  rw [bI_0]
  refine ⟨fun c => ?_, fun c => hp _ ?_⟩
  · have eS : stepW sc so we ky w (fun q => bhB M0 (nI (smS sc so we q)) (nI q)) s = stepF sc so we ky w (fun q => bhB M0 (nI (smS sc so we q)) (nI q)) (fl s.2.1 w) (pvN s.1 (Bd sc we) (fl s.2.1 w) 12) s := if_neg (by rw [c]; decide)
    rw [eS] at hp
    refine q_floor a2 a3 hw1 hw hn (q_firstAbove hS1 hQ1 hs a4 a5 ?_)
    have hq := pvN_le (S := s.1) (B := Bd sc we) (f := fl s.2.1 w) 12
    generalize pvN s.1 (Bd sc we) (fl s.2.1 w) 12 = q at hq hp ⊢
    generalize fl s.2.1 w = f at hp ⊢
    unfold stepF at hp
    simp (disch := omega) only [nI_eq]
    refine ⟨fun c1 => ?_, fun c1 => hp _ ?_⟩
    · rw [if_neg c1] at hp
      have hg := gnN_le hs (Nat.le_refl 12)
      refine q_greatestNeeded hS1 hQ1 hs a4 (fun g hgo => ?_)
      rw [nO_le hgo hg hq]
      refine ⟨fun c2 => ?_, fun c2 => ?_⟩
      · rw [if_neg (show ¬ q < gnN so s.1 12 by omega)] at hp
        refine q_boundOfBlocks hS1 hQ1 hs a4 (by omega) ⟨fun c3 => ?_, fun c3 => ?_⟩
        · rw [if_neg (Int32.not_le.mpr c3)] at hp
          refine q_leastObject hS1 hQ1 hs a4 ?_
          have hl := lsN_le s.1 12
          simp (disch := omega) only [nI_leI]
          refine ⟨fun c4 => ?_, fun c4 => ?_⟩
          · rw [if_neg (show ¬ lsN s.1 12 < q by omega)] at hp
            exact q_judgeW s q hS hQ hK hP hw1 hw hn hs (by omega) H hp
          · rw [if_pos (show lsN s.1 12 < q by omega)] at hp
            exact q_jumpAllW s q hS hQ hs hq H hp
        · rw [if_pos (Int32.not_lt.mp c3)] at hp
          have H2 : cW sc so we w M0 (skW s) (em_up M 48 7 (M 48 7 + nI 1)) := by
            rw [b3, nI_add]
            exact cW_up H rfl rfl (by rw [eu_j (by omega)]; exact b1) (by rw [eu_j (by omega)]; exact b2) (by rw [eu_eq]; rfl) (by rw [eu_j (by omega)]; exact b4) (by rw [eu_j (by omega)]; exact b5)
          have hb := ebN_le (sc := sc) (S := s.1) (q := q) 12
          exact q_endOfBlocks (S := s.1) (cW_S H2 hS) (cW_Q H2 hQ) hs H2.2.2.2.1 (by omega) (q_jumpAllW (skW s) _ hS hQ hs hb H2 hp)
      · rw [if_pos (show q < gnN so s.1 12 by omega)] at hp
        rw [nO_gt hgo (show q < gnN so s.1 12 by omega)]
        exact q_jumpAllW s _ hS hQ hs hg H hp
    · rw [if_pos c1]
      exact cW_up H rfl rfl (by rw [eu_j (by omega)]; exact b1) (by rw [eu_j (by omega)]; exact b2) (by rw [eu_j (by omega)]; exact b3) (by rw [eu_j (by omega)]; exact b4) (by rw [eu_eq])
  · have eS : stepW sc so we ky w (fun q => bhB M0 (nI (smS sc so we q)) (nI q)) s = (s.1, s.2.1, s.2.2.1, s.2.2.2.1, s.2.2.2.2.1, s.2.2.2.2.2.1, 0) := if_pos (by simpa using c)
    rw [eS]
    exact cW_up H rfl rfl (by rw [eu_j (by omega)]; exact b1) (by rw [eu_j (by omega)]; exact b2) (by rw [eu_j (by omega)]; exact b3) (by rw [eu_j (by omega)]; exact b4) (by rw [eu_eq])
def eC (e : Nat) : Int32 := if e = 2 then -1 else nI e
def pA (so S : Nat → Nat) (q k : Nat) (a : Int32) : Prop := (q < gnN so S k ∧ a = nI (gnN so S k)) ∨ (¬ q < gnN so S k ∧ a = -1)
theorem mW_same {so : Nat → Nat} {x : Int32} {M0 M : em_M} {s : WS} (H : mW so M0 x s M) : mW so M0 x s (em_up M 52 18 (M 52 18)) := by
  obtain ⟨a1, a2, a3, a4, a5, a6, b1, b2, b3, b4, b5⟩ := id H
  exact mW_up H (by omega) (by omega) rfl rfl (by rw [eu_j (by omega)]; exact b1) (by rw [eu_j (by omega)]; exact b2) (by rw [eu_eq]; exact b3) (by rw [eu_j (by omega)]; exact b4) (by rw [eu_j (by omega)]; exact b5)
theorem m_step {post : Int32 → em_M → Prop} {sc : Nat → Nat → Nat} {so we : Nat → Nat} {ky : Nat → Int32} {w : Nat} {x : Int32} {M0 M : em_M} {s : WS} (hS : mS sc M0) (hQ : mQ so we M0) (hK : ∀ o, o < 512 → M0 54 o = ky o) (hw0 : M0 52 5 = nI w) (hw1 : 1 ≤ w) (hw : w ≤ 20) (ok : okW sc so w s) (he : s.2.2.2.2.2.2 = 2) (H : mW so M0 x s M)
    (hp : ∀ M', mW so M0 x (stepW sc so we ky w (fun q => bhB M0 (nI (smS sc so we q)) (nI q)) s) M' → post (eC (stepW sc so we ky w (fun q => bhB M0 (nI (smS sc so we q)) (nI q)) s).2.2.2.2.2.2) M') : wp_MD_step post M := by
  obtain ⟨hs, hn, -⟩ := ok
  obtain ⟨a1, a2, a3, a4, a5, a6, b1, b2, b3, b4, b5⟩ := id H
  have hS1 := mW_S H hS
  have hQ1 := mW_Q H hQ
  simp only [wp_MD_step, forall_eq]
  refine m_isAtEnd hQ1 hs a6 ?_
  rw [bI_0]
  refine ⟨fun c => ?_, fun c => ?_⟩
  · have eS : stepW sc so we ky w (fun q => bhB M0 (nI (smS sc so we q)) (nI q)) s = stepF sc so we ky w (fun q => bhB M0 (nI (smS sc so we q)) (nI q)) (fl s.2.1 w) (pvN s.1 (Bd sc we) (fl s.2.1 w) 12) s := if_neg (by rw [c]; decide)
    rw [eS] at hp
    have w5 : M 52 5 = nI w := by rw [a2 5 (by omega) (by omega) (by omega) (by omega) (by omega)]; exact hw0
    refine m_floor a3 w5 hw1 hw hn (m_pivot hS1 hQ1 hs a6 ?_)
    have hq := pvN_le (S := s.1) (B := Bd sc we) (f := fl s.2.1 w) 12
    generalize pvN s.1 (Bd sc we) (fl s.2.1 w) 12 = q at hq hp ⊢
    generalize fl s.2.1 w = f at hp ⊢
    have hneed : ∀ l, l < 12 → so l = 2 → s.1 l < 512 := by
      intro l hl h2
      by_cases z : s.1 l < 512
      · exact z
      · have : atE so s.1 = true := by
          unfold atE
          have : anyN (fun l => decide (so l = 2) && decide (¬ s.1 l < 512)) 12 = true := anyN_iff.mpr ⟨l, hl, by simp [h2, z]⟩
          rw [this]; simp
        rw [this] at c; exact absurd c (by decide)
    unfold stepF at hp
    simp (disch := omega) only [nI_eq]
    refine ⟨fun c1 => ?_, fun c1 => ?_⟩
    · rw [if_neg c1] at hp
      have hg := gnN_le hs (Nat.le_refl 12)
      refine lpB (by omega) (by omega) (fun k a b => pA so s.1 q k a ∧ b = bI (anyN (fun l => decide (s.1 l < 512) && decide (s.1 l < q)) k)) ⟨Or.inr ⟨by simp [gnN], rfl⟩, rfl⟩ ?_ ?_
      · rintro a _ ⟨ha, rfl⟩
        refine ejG (fun J => (q < gnN so s.1 12 → J (nI (gnN so s.1 12))) ∧ (¬ q < gnN so s.1 12 → (nI (smN (bbN sc we s.1 q) 12) ≤ f → J (nI (ebN sc s.1 q 12))) ∧ (¬ nI (smN (bbN sc we s.1 q) 12) ≤ f → J (-1)))) ⟨fun c2 => ?_, fun c2 => ⟨fun c3 => ?_, fun c3 => ?_⟩⟩ (fun J hJ => ?_)
        · rcases ha with ⟨_, rfl⟩ | ⟨z, _⟩
          · rw [if_pos c2] at hp
            have hp' : ∀ M', mW so M0 x (jpW sc s (gnN so s.1 12)) M' → post (-1) M' := fun M' z => by
              have := hp M' z
              rw [jp_en, he] at this
              exact this
            refine ⟨fun z => absurd z (by rw [nz_lt (by omega)]; exact id), fun _ => ⟨fun _ => m_jumpAllW s _ hS hQ hs hg (mW_same H) hp', fun z => absurd ((nz_ge (by omega)).mpr trivial) z⟩⟩
          · exact absurd c2 z
        · rcases ha with ⟨z, _⟩ | ⟨_, rfl⟩
          · exact absurd z c2
          · rw [if_neg c2, if_pos c3] at hp
            have heb := ebN_le (sc := sc) (S := s.1) (q := q) 12
            have hp' : ∀ M', mW so M0 x (jpW sc (skW s) (ebN sc s.1 q 12)) M' → post (-1) M' := fun M' z => by
              have := hp M' z
              rw [jp_en, sk_en, he] at this
              exact this
            have H2 : mW so M0 x (skW s) (em_up M 52 18 (M 52 18 + nI 1)) := by
              rw [b3, nI_add]
              exact mW_up H (by omega) (by omega) rfl rfl (by rw [eu_j (by omega)]; exact b1) (by rw [eu_j (by omega)]; exact b2) (by rw [eu_eq]; rfl) (by rw [eu_j (by omega)]; exact b4) (by rw [eu_j (by omega)]; exact b5)
            refine ⟨fun z => absurd z (by rw [nz_lt (by omega)]; exact id), fun _ => ⟨fun z => absurd z (by decide), fun _ => m_jumpAllW (skW s) _ hS hQ hs heb H2 hp'⟩⟩
        · rcases ha with ⟨z, _⟩ | ⟨_, rfl⟩
          · exact absurd z c2
          · rw [if_neg c2, if_neg c3] at hp
            rw [bI_0]
            refine ⟨fun _ => ⟨fun d => ?_, fun d => ?_⟩, fun z => absurd (by decide) z⟩
            · have d' : ¬ lsN s.1 12 < q := fun z => by rw [lsN_lt (by omega)] at z; rw [z] at d; exact absurd d (by decide)
              rw [if_neg d'] at hp
              refine m_judgeW s q hS hQ hK hw0 hw1 hw hn hs (by omega) H (fun M' z => ?_)
              have := hp M' z
              rw [g_en, he] at this
              exact this
            · have d' : lsN s.1 12 < q := by rw [lsN_lt (by omega)]; simpa using d
              rw [if_pos d'] at hp
              refine m_jumpAllW s q hS hQ hs hq H (fun M' z => ?_)
              have := hp M' z
              rw [jp_en, he] at this
              exact this
        · obtain ⟨hJ1, hJ2⟩ := hJ
          rcases ha with ⟨z, rfl⟩ | ⟨z, rfl⟩
          · exact ⟨fun _ => hJ1 z, fun y => absurd ((nz_ge (by omega)).mpr trivial) y⟩
          · exact ⟨fun y => absurd y (by decide), fun _ => m_skipTo hS1 hQ1 hs a6 (by omega) (fun y => (hJ2 z).1 y) (fun y => (hJ2 z).2 y)⟩
      · rintro I mu k a _ hk _ ⟨ha, rfl⟩ st
        obtain ⟨g1, g2, -⟩ := hQ1 k hk
        have hle := (hs k hk).1
        have hgk := gnN_le hs (k := k) (by omega)
        refine m_isLine hQ1 hs a6 hk ?_
        refine ejG (fun J => ∀ a', pA so s.1 q (k + 1) a' → J a') (fun a' ha' => ?_) (fun J hJ => ?_)
        · refine ejG (fun J => J (bI (anyN (fun l => decide (s.1 l < 512) && decide (s.1 l < q)) (k + 1)))) (st _ _ ⟨ha', rfl⟩) (fun J hJ => ?_)
          simp only [anyN] at hJ
          refine ejG (fun J2 => anyN (fun l => decide (s.1 l < 512) && decide (s.1 l < q)) k = true ∨ (s.1 k < 512 ∧ s.1 k < q) → J2) (fun d => ?_) (fun J2 hJ2 => ?_)
          · have : (anyN (fun l => decide (s.1 l < 512) && decide (s.1 l < q)) k || (decide (s.1 k < 512) && decide (s.1 k < q))) = true := by
              rcases d with d | d
              · rw [d]; rfl
              · simp [d.1, d.2]
            rw [this] at hJ; exact hJ
          · rw [bI_0]
            refine ⟨fun d => hJ2 (Or.inl (by simpa using d)), fun d => m_isLine hQ1 hs a6 hk ?_⟩
            refine ejG (fun J3 => ¬ (s.1 k < 512 ∧ s.1 k < q) → J3) (fun e => ?_) (fun J3 hJ3 => ?_)
            · have : (anyN (fun l => decide (s.1 l < 512) && decide (s.1 l < q)) k || (decide (s.1 k < 512) && decide (s.1 k < q))) = false := by
                rw [d]
                by_cases y1 : s.1 k < 512
                · by_cases y2 : s.1 k < q
                  · exact absurd ⟨y1, y2⟩ e
                  · simp [y2]
                · simp [y1]
              rw [this] at hJ; exact hJ
            · simp (disch := omega) only [bI_0, n_in, nI_clamp]
              refine ⟨fun e => hJ3 (fun y => absurd e (by simp [y.1])), fun e => ⟨hk, ?_⟩⟩
              have e' : s.1 k < 512 := by simpa using e
              rw [a6 k hk (lS_a hs hk e')]
              simp (disch := omega) only [nI_leI]
              exact ⟨fun y => hJ3 (fun v => by omega), fun y => hJ2 (Or.inr ⟨e', by omega⟩)⟩
        · refine ejG (fun J2 => ¬ (so k = 2 ∧ q < s.1 k ∧ gnN so s.1 k < s.1 k) → J2) (fun d => hJ a ?_) (fun J2 hJ2 => ?_)
          · have e : (q < gnN so s.1 (k + 1) ↔ q < gnN so s.1 k) ∧ (q < gnN so s.1 k → gnN so s.1 (k + 1) = gnN so s.1 k) := by
              simp only [gnN]
              by_cases y : so k = 2 ∧ gnN so s.1 k < s.1 k
              · rw [if_pos y]
                have : ¬ q < s.1 k := fun v => d ⟨y.1, v, y.2⟩
                exact ⟨⟨fun v => absurd v this, fun v => by omega⟩, fun v => by omega⟩
              · rw [if_neg y]; exact ⟨Iff.rfl, fun _ => rfl⟩
            rcases ha with ⟨y1, y2⟩ | ⟨y1, y2⟩
            · exact Or.inl ⟨e.1.mpr y1, by rw [e.2 y1]; exact y2⟩
            · exact Or.inr ⟨fun v => y1 (e.1.mp v), y2⟩
          · simp (disch := omega) only [bI_0, n_in, nI_clamp, g1, nI_eq]
            refine ⟨fun d => hJ2 (fun y => absurd d (by simp [hneed k hk y.1])), fun d => ⟨hk, fun e => hJ2 (fun y => e y.1), fun e => ?_⟩⟩
            have d' : s.1 k < 512 := by simpa using d
            rw [a6 k hk (lS_a hs hk d')]
            simp (disch := omega) only [nI_leI]
            refine ⟨fun y => hJ2 (fun v => by omega), fun y => ⟨fun v => hJ2 (fun u => ?_), fun v => hJ _ ?_⟩⟩
            · rcases ha with ⟨y1, rfl⟩ | ⟨y1, rfl⟩
              · rw [nI_leI (by omega) (by omega)] at v; omega
              · exact absurd (Int32.le_trans ((nz_ge (a := s.1 k) (by omega)).mpr trivial) v) (by decide)
            · have hlt : gnN so s.1 k < s.1 k := by
                rcases ha with ⟨y1, rfl⟩ | ⟨y1, rfl⟩
                · rw [nI_leI (by omega) (by omega)] at v; omega
                · omega
              refine Or.inl ?_
              simp only [gnN]
              rw [if_pos ⟨e, hlt⟩]
              exact ⟨by omega, rfl⟩
    · rw [if_pos c1] at hp
      exact hp M H
  · have eS : stepW sc so we ky w (fun q => bhB M0 (nI (smS sc so we q)) (nI q)) s = (s.1, s.2.1, s.2.2.1, s.2.2.2.1, s.2.2.2.2.1, s.2.2.2.2.2.1, 0) := if_pos (by simpa using c)
    rw [eS] at hp
    exact hp M H
