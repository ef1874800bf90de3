/-! THE WHOLE WALK -/
def s0W (sc : Nat → Nat → Nat) (so : Nat → Nat) : WS := (fun l => if asked so l = true then ff (sc l) 0 else 512, (fun _ => (0, 0, 0, 0), 0), 0, 0, 0, 0, 2)
def tkW (s : WS) : WS := (s.1, s.2.1, s.2.2.1 + 1, s.2.2.2.1, s.2.2.2.2.1, s.2.2.2.2.2.1, s.2.2.2.2.2.2)
def itW (sc : Nat → Nat → Nat) (so we : Nat → Nat) (ky : Nat → Int32) (w : Nat) (bq : Nat → Bool) : Nat → WS
  | 0 => s0W sc so
  | i + 1 => if (itW sc so we ky w bq i).2.2.2.2.2.2 = 2 then stepW sc so we ky w bq (tkW (itW sc so we ky w bq i)) else itW sc so we ky w bq i
theorem tk_ok {sc : Nat → Nat → Nat} {so : Nat → Nat} {w : Nat} {s : WS} (h : okW sc so w s) : okW sc so w (tkW s) := h
theorem tk_st {s : WS} : (tkW s).2.2.1 = s.2.2.1 + 1 := rfl
theorem tk_en {s : WS} : (tkW s).2.2.2.2.2.2 = s.2.2.2.2.2.2 := rfl
theorem s0_ok {sc : Nat → Nat → Nat} {so : Nat → Nat} {w : Nat} : okW sc so w (s0W sc so) := by
  refine ⟨fun l hl => ?_, Nat.zero_le _, Nat.le_refl _⟩
  show (if asked so l = true then ff (sc l) 0 else 512) ≤ 512 ∧ (asked so l = false → (if asked so l = true then ff (sc l) 0 else 512) = 512) ∧ ((if asked so l = true then ff (sc l) 0 else 512) < 512 → 0 < sc l (if asked so l = true then ff (sc l) 0 else 512))
  by_cases c : asked so l = true
  · rw [if_pos c]
    exact ⟨ff_le (by omega), fun d => by rw [c] at d; exact absurd d (by decide), fun d => ff_pos (by omega) d⟩
  · rw [if_neg c]
    exact ⟨Nat.le_refl _, fun _ => rfl, fun d => absurd d (Nat.lt_irrefl _)⟩
theorem it_ok {sc : Nat → Nat → Nat} {so we : Nat → Nat} {ky : Nat → Int32} {w : Nat} {bq : Nat → Bool} : ∀ i, okW sc so w (itW sc so we ky w bq i)
  | 0 => s0_ok
  | i + 1 => by
    have ih := it_ok (sc := sc) (so := so) (we := we) (ky := ky) (w := w) (bq := bq) i
    simp only [itW]
    split
    · exact (okW_step (tk_ok ih)).1
    · exact ih
theorem it_next {sc : Nat → Nat → Nat} {so we : Nat → Nat} {ky : Nat → Int32} {w : Nat} {bq : Nat → Bool} {i : Nat} (h : (itW sc so we ky w bq i).2.2.2.2.2.2 = 2) : itW sc so we ky w bq (i + 1) = stepW sc so we ky w bq (tkW (itW sc so we ky w bq i)) := by
  simp only [itW]
  rw [if_pos h]
theorem it_stop {sc : Nat → Nat → Nat} {so we : Nat → Nat} {ky : Nat → Int32} {w : Nat} {bq : Nat → Bool} {i : Nat} (h : ¬ (itW sc so we ky w bq i).2.2.2.2.2.2 = 2) : ∀ k, itW sc so we ky w bq (i + k) = itW sc so we ky w bq i
  | 0 => rfl
  | k + 1 => by
    have ih := it_stop h k
    show itW sc so we ky w bq ((i + k) + 1) = _
    simp only [itW]
    rw [ih, if_neg h]
theorem it_nst {sc : Nat → Nat → Nat} {so we : Nat → Nat} {ky : Nat → Int32} {w : Nat} {bq : Nat → Bool} {i : Nat} (h : (itW sc so we ky w bq i).2.2.2.2.2.2 = 2) (hi : (itW sc so we ky w bq i).2.2.1 = i) : (itW sc so we ky w bq (i + 1)).2.2.1 = i + 1 := by
  rw [it_next h, (okW_step (tk_ok (it_ok i))).2, tk_st, hi]
theorem q_begin {post : em_M → Prop} {sc : Nat → Nat → Nat} {so we : Nat → Nat} {w : Nat} {M0 : em_M} (hS : cS sc M0) (hQ : cQ so we M0) (hw0 : M0 40 3 = nI w) (hw1 : 1 ≤ w) (hw : w ≤ 20) (hp : ∀ M', cW sc so we w M0 (s0W sc so) M' → post M') : wp_LW_begin post M0 := by
  simp only [wp_LW_begin, wp_RK_begin, forall_eq, hw0]
  have ew : (if nI 20 < nI w then nI 20 else nI w) = nI w := by
    rw [if_neg]
    rw [nI_ltI (by omega) (by omega)]; omega
  rw [ew]
  refine lpM (by omega) (by omega) (fun k M => (∀ c, c < 43 ∨ 51 ≤ c → M c = M0 c) ∧ M 43 4 = nI 0 ∧ M 43 5 = nI w ∧ ∀ l, l < k → M 49 l = nI 0 ∧ M 50 l = nI (Bd sc we l)) ⟨fun c hc => by rw [eu_ne (by omega), eu_ne (by omega)], by rw [eu_j (by omega), eu_eq], by rw [eu_eq], fun l hl => absurd hl (Nat.not_lt_zero _)⟩ ?_ ?_
  · rintro M ⟨a1, a2, a3, a4⟩
    refine hp _ ⟨fun c hc => ?_, ⟨?_, fun j hj => absurd hj (Nat.not_lt_zero _)⟩, ?_, fun l hl ha => ?_, fun l hl => ?_, ?_, ?_, ?_, ?_, ?_⟩
    · simp (disch := omega) only [eu_ne]; exact a1 c hc
    · simp (disch := omega) only [eu_ne]; exact a2
    · simp (disch := omega) only [eu_ne]; exact a3
    · simp (disch := omega) only [eu_ne]
      rw [(a4 l hl).1]
      show nI 0 = nI (cN (sc l) (if asked so l = true then ff (sc l) 0 else 512))
      rw [if_pos ha, cN_ff (by omega)]; rfl
    · simp (disch := omega) only [eu_ne]; exact (a4 l hl).2
    · simp (disch := omega) only [eu_j, eu_eq]; rfl
    · simp (disch := omega) only [eu_j, eu_eq]; rfl
    · simp (disch := omega) only [eu_j, eu_eq]; rfl
    · simp (disch := omega) only [eu_j, eu_eq]; rfl
    · simp (disch := omega) only [eu_eq]; rfl
  · rintro I mu k M hk _ ⟨a1, a2, a3, a4⟩ st
    simp (disch := omega) only [n_in, nI_clamp]
    refine ⟨hk, q_greatest (sc := sc) (cS_c hS (fun c _ _ => by rw [eu_ne (by omega)]; exact a1 c (by omega))) hk ?_⟩
    have e42 : em_up M 49 k (nI 0) 42 k = nI (we k) := by
      rw [eu_ne (by omega), a1 42 (by omega)]; exact (hQ k hk).2.2.1
    rw [e42, pk_mul]
    refine st _ ⟨fun c hc => by rw [eu_ne (by omega), eu_ne (by omega)]; exact a1 c hc, by rw [eu_ne (by omega), eu_ne (by omega)]; exact a2, by rw [eu_ne (by omega), eu_ne (by omega)]; exact a3, fun l hl => ?_⟩
    by_cases e : l = k
    · subst e
      rw [eu_ne (by omega), eu_eq, eu_eq]
      exact ⟨rfl, rfl⟩
    · rw [eu_ne (by omega), eu_j e, eu_j e, eu_ne (by omega)]
      exact a4 l (by omega)
theorem q_run {post : em_M → Prop} {sc : Nat → Nat → Nat} {so we : Nat → Nat} {ky : Nat → Int32} {w n : Nat} {M0 : em_M} (hS : cS sc M0) (hQ : cQ so we M0) (hK : ∀ o, o < 512 → M0 3 o = ky o) (hP : jP M0) (hw0 : M0 40 3 = nI w) (hw1 : 1 ≤ w) (hw : w ≤ 20) (hn : n ≤ 10000)
    (hp : ∀ s M', s = itW sc so we ky w (fun q => bhB M0 (nI (smS sc so we q)) (nI q)) n → cW sc so we w M0 s M' → M' 48 10 = fl s.2.1 w → M' 48 11 = nI (lsN s.1 12) → post M') : wp_LW_run post (nI n) M0 := by
  generalize hb : (fun q => bhB M0 (nI (smS sc so we q)) (nI q)) = bq at hp
  simp only [wp_LW_run, forall_eq]
  refine q_begin hS hQ hw0 hw1 hw (fun M1 H1 => ?_)
  refine ⟨fun M => ∃ i, i ≤ n ∧ (itW sc so we ky w bq i).2.2.1 = i ∧ cW sc so we w M0 (itW sc so we ky w bq i) M, fun M => n - (M 48 5).toNatClampNeg, ⟨0, by omega, rfl, H1⟩, ?_⟩
  rintro M ⟨i, i1, i2, H⟩
  have ok := it_ok (sc := sc) (so := so) (we := we) (ky := ky) (w := w) (bq := bq) i
  have b1 : M 48 5 = nI i := by rw [H.2.2.2.2.2.1, i2]
  have b5 : M 48 9 = nI (itW sc so we ky w bq i).2.2.2.2.2.2 := H.2.2.2.2.2.2.2.2.2
  have fin : itW sc so we ky w bq i = itW sc so we ky w bq n → wp_LW_floor (fun r_6 => wp_LW_leastObject (fun r_9 => post (em_up (em_up M 48 10 r_6) 48 11 r_9)) (em_up M 48 10 r_6)) M := by
    intro e
    generalize hs : itW sc so we ky w bq i = s at H ok e
    obtain ⟨c1, c2, c3, c4, c5, d1, d2, d3, d4, d5⟩ := id H
    refine q_floor c2 c3 hw1 hw ok.2.1 ?_
    have H2 : cW sc so we w M0 s (em_up M 48 10 (fl s.2.1 w)) := cW_up H rfl rfl (by rw [eu_j (by omega)]; exact d1) (by rw [eu_j (by omega)]; exact d2) (by rw [eu_j (by omega)]; exact d3) (by rw [eu_j (by omega)]; exact d4) (by rw [eu_j (by omega)]; exact d5)
    refine q_leastObject (cW_S H2 hS) (cW_Q H2 hQ) ok.1 H2.2.2.2.1 (hp s _ e ?_ ?_ ?_)
    · obtain ⟨c1, c2, c3, c4, c5, d1, d2, d3, d4, d5⟩ := id H2
      exact cW_up H2 rfl rfl (by rw [eu_j (by omega)]; exact d1) (by rw [eu_j (by omega)]; exact d2) (by rw [eu_j (by omega)]; exact d3) (by rw [eu_j (by omega)]; exact d4) (by rw [eu_j (by omega)]; exact d5)
    · rw [eu_j (by omega), eu_eq]
    · rw [eu_eq]
  have hen := ok.2.2
  rw [b1, b5]
  simp (disch := omega) only [nI_leI, nI_eq]
  refine ⟨fun c => fin (by rw [show i = n by omega]), fun c => ⟨fun d => fin ?_, fun d => ?_⟩⟩
  · have := it_stop d (n - i)
    rw [show i + (n - i) = n by omega] at this
    exact this.symm
  · rw [nI_add]
    have H2 : cW sc so we w M0 (tkW (itW sc so we ky w bq i)) (em_up M 48 5 (nI (i + 1))) := by
      obtain ⟨c1, c2, c3, c4, c5, d1, d2, d3, d4, d5⟩ := id H
      exact cW_up H rfl rfl (by rw [eu_eq, tk_st, i2]) (by rw [eu_j (by omega)]; exact d2) (by rw [eu_j (by omega)]; exact d3) (by rw [eu_j (by omega)]; exact d4) (by rw [eu_j (by omega)]; exact d5)
    refine q_step hS hQ hK hP hw1 hw (tk_ok ok) H2 (fun M' z => ?_)
    rw [hb, ← it_next d] at z
    have e5 : M' 48 5 = nI (i + 1) := by rw [z.2.2.2.2.2.1, it_nst d i2]
    refine ⟨⟨i + 1, by omega, it_nst d i2, z⟩, ?_⟩
    rw [e5, b1, nI_clamp (by omega), nI_clamp (by omega)]; omega
theorem m_walk {post : Int32 → em_M → Prop} {sc : Nat → Nat → Nat} {so we : Nat → Nat} {ky : Nat → Int32} {w n : Nat} {M0 : em_M} (hS : mS sc M0) (hQ : mQ so we M0) (hK : ∀ o, o < 512 → M0 54 o = ky o) (hw0 : M0 52 5 = nI w) (hw1 : 1 ≤ w) (hw : w ≤ 20) (hn1 : nI 1 ≤ nI n) (hn2 : nI n ≤ nI 10000) (hn : n ≤ 10000)
    (hp : ∀ s M', s = itW sc so we ky w (fun q => bhB M0 (nI (smS sc so we q)) (nI q)) n → mW so M0 (nI s.2.2.2.2.2.2) s M' → M' 52 21 = fl s.2.1 w → M' 52 22 = nI (lsN s.1 12) → post (nI s.2.1.2) M') : wp_MD_walk post (nI n) M0 := by
  generalize hb : (fun q => bhB M0 (nI (smS sc so we q)) (nI q)) = bq at hp
  simp only [wp_MD_walk, forall_eq]
  refine m_in (fun _ _ => ⟨fun _ => ?_, fun c => absurd c nI_10⟩) (fun c => absurd ⟨hn1, hn2⟩ c)
  refine lpM (by omega) (by omega) (fun k M => (∀ c, c ≠ 52 → c ≠ 61 → M c = M0 c) ∧ (∀ j, j ≠ 0 → j ≠ 8 → j ≠ 9 → j ≠ 10 → (j < 16 ∨ 23 ≤ j) → M 52 j = M0 52 j) ∧ M 52 8 = nI 0 ∧ M 52 9 = nI 0 ∧ M 52 10 = nI 1 ∧ M 52 16 = nI 0 ∧ M 52 17 = nI 0 ∧ M 52 18 = nI 0 ∧ M 52 19 = nI 0 ∧ M 52 20 = -1 ∧ ∀ l, l < k → M 61 l = nI (ff (sc l) 0)) ?_ ?_ ?_
  · refine ⟨fun c c1 c2 => by simp (disch := omega) only [eu_ne], fun j j1 j2 j3 j4 j5 => by simp (disch := omega) only [eu_j], (by simp (disch := omega) only [eu_ne, eu_j, eu_eq]), (by simp (disch := omega) only [eu_ne, eu_j, eu_eq]), (by simp (disch := omega) only [eu_ne, eu_j, eu_eq]), (by simp (disch := omega) only [eu_ne, eu_j, eu_eq]), (by simp (disch := omega) only [eu_ne, eu_j, eu_eq]), (by simp (disch := omega) only [eu_ne, eu_j, eu_eq]), (by simp (disch := omega) only [eu_ne, eu_j, eu_eq]), (by simp (disch := omega) only [eu_ne, eu_j, eu_eq]), fun l hl => absurd hl (Nat.not_lt_zero _)⟩
  · rintro M1 ⟨a1, a2, a3, a4, a5, a6, a7, a8, a9, a10, a11⟩
    have H1 : mW so M0 (eC (s0W sc so).2.2.2.2.2.2) (s0W sc so) M1 := ⟨fun c c1 _ _ _ _ c6 => a1 c c1 c6, a2, ⟨a3, fun j hj => absurd hj (Nat.not_lt_zero _)⟩, a4, a5, fun l hl ha => by
      rw [a11 l hl]
      show _ = nI (if asked so l = true then ff (sc l) 0 else 512)
      rw [if_pos ha], a6, a7, a8, a9, a10⟩
    refine ⟨fun M => ∃ i, i ≤ n ∧ (itW sc so we ky w bq i).2.2.1 = i ∧ mW so M0 (eC (itW sc so we ky w bq i).2.2.2.2.2.2) (itW sc so we ky w bq i) M, fun M => n - (M 52 16).toNatClampNeg, ⟨0, by omega, rfl, H1⟩, ?_⟩
    rintro M ⟨i, i1, i2, H⟩
    have ok := it_ok (sc := sc) (so := so) (we := we) (ky := ky) (w := w) (bq := bq) i
    have b1 : M 52 16 = nI i := by rw [H.2.2.2.2.2.2.1, i2]
    have b5 : M 52 20 = eC (itW sc so we ky w bq i).2.2.2.2.2.2 := H.2.2.2.2.2.2.2.2.2.2
    have hen := ok.2.2
    have hneg : 0 ≤ M 52 20 ↔ ¬ (itW sc so we ky w bq i).2.2.2.2.2.2 = 2 := by
      rw [b5]
      unfold eC
      by_cases c : (itW sc so we ky w bq i).2.2.2.2.2.2 = 2
      · rw [if_pos c]; exact ⟨fun z => absurd z (by decide), fun z => absurd c z⟩
      · rw [if_neg c]; exact ⟨fun _ => c, fun _ => (nz_ge (by omega)).mpr trivial⟩
    refine ejG (fun J => itW sc so we ky w bq i = itW sc so we ky w bq n → J) (fun e => ?_) (fun J hJ => ?_)
    · generalize hs : itW sc so we ky w bq i = s at H ok e b5 hen hneg
      refine ejG (fun J => J (nI s.2.2.2.2.2.2)) ?_ (fun J hJ => ?_)
      · have H2 : mW so M0 (nI s.2.2.2.2.2.2) s (em_up M 52 20 (nI s.2.2.2.2.2.2)) := by
          obtain ⟨c1, c2, c3, c4, c5, c6, d1, d2, d3, d4, d5⟩ := id H
          exact mW_up H (by omega) (by omega) rfl rfl (by rw [eu_j (by omega)]; exact d1) (by rw [eu_j (by omega)]; exact d2) (by rw [eu_j (by omega)]; exact d3) (by rw [eu_j (by omega)]; exact d4) (by rw [eu_eq])
        generalize em_up M 52 20 (nI s.2.2.2.2.2.2) = M2 at H2
        have w5 : M2 52 5 = nI w := by rw [H2.2.1 5 (by omega) (by omega) (by omega) (by omega) (by omega)]; exact hw0
        refine m_floor H2.2.2.1 w5 hw1 hw ok.2.1 ?_
        have H3 : mW so M0 (nI s.2.2.2.2.2.2) s (em_up M2 52 21 (fl s.2.1 w)) := by
          obtain ⟨c1, c2, c3, c4, c5, c6, d1, d2, d3, d4, d5⟩ := id H2
          exact mW_up H2 (by omega) (by omega) rfl rfl (by rw [eu_j (by omega)]; exact d1) (by rw [eu_j (by omega)]; exact d2) (by rw [eu_j (by omega)]; exact d3) (by rw [eu_j (by omega)]; exact d4) (by rw [eu_j (by omega)]; exact d5)
        have f21 : em_up M2 52 21 (fl s.2.1 w) 52 21 = fl s.2.1 w := by rw [eu_eq]
        generalize em_up M2 52 21 (fl s.2.1 w) = M3 at H3 f21
        have H4 : mW so M0 (nI s.2.2.2.2.2.2) s (em_up M3 52 22 (nI 512)) := by
          obtain ⟨c1, c2, c3, c4, c5, c6, d1, d2, d3, d4, d5⟩ := id H3
          exact mW_up H3 (by omega) (by omega) rfl rfl (by rw [eu_j (by omega)]; exact d1) (by rw [eu_j (by omega)]; exact d2) (by rw [eu_j (by omega)]; exact d3) (by rw [eu_j (by omega)]; exact d4) (by rw [eu_j (by omega)]; exact d5)
        refine lpM (by omega) (by omega) (fun k M => mW so M0 (nI s.2.2.2.2.2.2) s M ∧ M 52 21 = fl s.2.1 w ∧ M 52 22 = nI (lsN s.1 k)) ⟨H4, by rw [eu_j (by omega)]; exact f21, by rw [eu_eq]; rfl⟩ (fun M' z => by rw [z.1.2.2.1.1]; exact hp s M' e z.1 z.2.1 z.2.2) ?_
        rintro I mu k M5 hk _ ⟨z1, z2, z3⟩ st
        have hle := (ok.1 k hk).1
        have hls := lsN_le s.1 k
        refine m_isLine (mW_Q z1 hQ) ok.1 z1.2.2.2.2.2.1 hk ?_
        refine ejG (fun J => J (nI (lsN s.1 (k + 1)))) (st _ ⟨?_, ?_, ?_⟩) (fun J hJ => ?_)
        · obtain ⟨c1, c2, c3, c4, c5, c6, d1, d2, d3, d4, d5⟩ := id z1
          exact mW_up z1 (by omega) (by omega) rfl rfl (by rw [eu_j (by omega)]; exact d1) (by rw [eu_j (by omega)]; exact d2) (by rw [eu_j (by omega)]; exact d3) (by rw [eu_j (by omega)]; exact d4) (by rw [eu_j (by omega)]; exact d5)
        · rw [eu_j (by omega)]; exact z2
        · rw [eu_eq]
        · rw [z3]
          simp only [lsN] at hJ
          refine ejG (fun J2 => ¬ s.1 k < lsN s.1 k → J2) (fun c => ?_) (fun J2 hJ2 => ?_)
          · rw [if_neg c] at hJ; exact hJ
          · simp (disch := omega) only [bI_0, n_in, nI_clamp]
            refine ⟨fun c => hJ2 ?_, fun c => ⟨hk, ?_⟩⟩
            · have : ¬ s.1 k < 512 := by simpa using c
              omega
            · have c' : s.1 k < 512 := by simpa using c
              rw [z1.2.2.2.2.2.1 k hk (lS_a ok.1 hk c')]
              simp (disch := omega) only [nI_leI]
              refine ⟨fun y => hJ2 (by omega), fun y => ?_⟩
              rw [if_pos (by omega)] at hJ; exact hJ
      · rw [hneg, b5]
        unfold eC
        refine ⟨fun c => ?_, fun c => ?_⟩
        · rw [if_neg c]; exact hJ
        · have c' : s.2.2.2.2.2.2 = 2 := Classical.byContradiction (fun y => c y)
          rw [c'] at hJ; exact hJ
    · rw [hneg, b1]
      simp (disch := omega) only [nI_leI]
      refine ⟨fun c => hJ (by rw [show i = n by omega]), fun c => ⟨fun d => hJ ?_, fun d => ?_⟩⟩
      · have := it_stop d (n - i)
        rw [show i + (n - i) = n by omega] at this
        exact this.symm
      · have d' : (itW sc so we ky w bq i).2.2.2.2.2.2 = 2 := Classical.byContradiction (fun y => d y)
        rw [nI_add]
        have H2 : mW so M0 (eC (itW sc so we ky w bq i).2.2.2.2.2.2) (tkW (itW sc so we ky w bq i)) (em_up M 52 16 (nI (i + 1))) := by
          obtain ⟨c1, c2, c3, c4, c5, c6, d1, d2, d3, d4, d5⟩ := id H
          exact mW_up H (by omega) (by omega) rfl rfl (by rw [eu_eq, tk_st, i2]) (by rw [eu_j (by omega)]; exact d2) (by rw [eu_j (by omega)]; exact d3) (by rw [eu_j (by omega)]; exact d4) (by rw [eu_j (by omega)]; exact d5)
        refine m_step (ky := ky) hS hQ hK hw0 hw1 hw (tk_ok ok) (by rw [tk_en]; exact d') H2 (fun M' z => ?_)
        rw [hb, ← it_next d'] at z ⊢
        have z' : mW so M0 (eC (itW sc so we ky w bq (i + 1)).2.2.2.2.2.2) (itW sc so we ky w bq (i + 1)) (em_up M' 52 20 (eC (itW sc so we ky w bq (i + 1)).2.2.2.2.2.2)) := by
          obtain ⟨c1, c2, c3, c4, c5, c6, d1, d2, d3, d4, d5⟩ := id z
          exact mW_up z (by omega) (by omega) rfl rfl (by rw [eu_j (by omega)]; exact d1) (by rw [eu_j (by omega)]; exact d2) (by rw [eu_j (by omega)]; exact d3) (by rw [eu_j (by omega)]; exact d4) (by rw [eu_eq])
        have e5 := z'.2.2.2.2.2.2.1
        rw [it_nst d' i2] at e5
        refine ⟨⟨i + 1, by omega, it_nst d' i2, z'⟩, ?_⟩
        rw [e5, b1, nI_clamp (by omega), nI_clamp (by omega)]; omega
  · rintro I mu k M hk _ ⟨a1, a2, a3, a4, a5, a6, a7, a8, a9, a10, a11⟩ st
    refine m_firstFrom (mS_c hS (a1 53 (by omega) (by omega))) hk (by omega) (fun r r1 r2 => ?_)
    rw [ff_un (by omega) r2]
    simp (disch := omega) only [n_in, nI_clamp]
    refine ⟨hk, st _ ⟨fun c c1 c2 => by rw [eu_ne c2]; exact a1 c c1 c2, fun j j1 j2 j3 j4 j5 => by rw [eu_ne (by omega)]; exact a2 j j1 j2 j3 j4 j5, by rw [eu_ne (by omega)]; exact a3, by rw [eu_ne (by omega)]; exact a4, by rw [eu_ne (by omega)]; exact a5, by rw [eu_ne (by omega)]; exact a6, by rw [eu_ne (by omega)]; exact a7, by rw [eu_ne (by omega)]; exact a8, by rw [eu_ne (by omega)]; exact a9, by rw [eu_ne (by omega)]; exact a10, fun l hl => ?_⟩⟩
    by_cases e : l = k
    · subst e; rw [eu_eq]
    · rw [eu_j e]; exact a11 l (by omega)
theorem op_walk {x : Int32} {M : em_M} {post : Int32 → Int32 → em_M → Prop} (H : JJ M) (hp : ∀ r M2, JJ M2 → post r r M2) : wp_BE_walk (fun r M1 => wp_MD_walk (fun r2 M2 => post r r2 M2) x M1) x M := by
  unfold wp_BE_walk
  refine q_isWithin (fun a b => ⟨fun _ => ?_, fun c => absurd c nI_10⟩) (fun a => ⟨fun c => absurd rfl c, fun _ => ?_⟩)
  · obtain ⟨n, n1, n2, rfl⟩ := n_rng (by omega) a b (by omega)
    obtain ⟨sc, so, we, ky, w, h, a1, a2, a3, a4, a5, a6, a7, a8, a9⟩ := H
    refine q_run a1 a3 (fun o ho => (a5 o ho).1) a7 a6.1 a6.2.2.1 a6.2.2.2 n2 (fun s M' hs hc h10 h11 => ?_)
    simp only [forall_eq]
    obtain ⟨b1, ⟨b2, b3⟩, b4, b5, b6, d1, d2, d3, d4, d5⟩ := hc
    have f52 : ∀ c, 52 ≤ c → em_up (em_up M' 0 5 (nI 1)) 0 6 (nI 0) c = M c := fun c hc => by rw [eu_ne (by omega), eu_ne (by omega)]; exact b1 c (by omega)
    refine m_walk (w := w) (ky := ky) (mS_c a2 (f52 53 (by omega))) (mQ_c a4 (f52 55 (by omega)) (f52 56 (by omega))) (fun o ho => by rw [f52 54 (by omega)]; exact (a5 o ho).2.1) (by rw [f52 52 (by omega)]; exact a6.2.1) a6.2.2.1 a6.2.2.2 a b n2 (fun s' M2 hs' hm h21 h22 => ?_)
    have eb : (fun q => bhB (em_up (em_up M' 0 5 (nI 1)) 0 6 (nI 0)) (nI (smS sc so we q)) (nI q)) = fun q => bhB M (nI (smS sc so we q)) (nI q) := by
      funext q
      unfold bhB
      rw [f52 52 (by omega)]
    rw [eb, ← hs] at hs'
    rw [hs'] at hm h21 h22 ⊢
    have hok := it_ok (sc := sc) (so := so) (we := we) (ky := ky) (w := w) (bq := fun q => bhB M (nI (smS sc so we q)) (nI q)) n
    rw [← hs] at hok
    clear hs hs' eb
    have e4 : em_up (em_up M' 0 5 (nI 1)) 0 6 (nI 0) 43 4 = nI s.2.1.2 := by
      rw [eu_ne (by omega), eu_ne (by omega)]; exact b2
    rw [e4]
    obtain ⟨m1, m2, ⟨m3, m4⟩, m5, m6, m7, g1, g2, g3, g4, g5⟩ := hm
    have fl' : ∀ c, c ≠ 0 → c < 52 → M2 c = M' c := fun c c0 c1 => by rw [m1 c (by omega) (by omega) (by omega) (by omega) (by omega) (by omega), eu_ne c0, eu_ne c0]
    have fm : ∀ c, c ≠ 0 → c < 43 ∨ c = 51 → M2 c = M c := fun c c0 c1 => by rw [fl' c c0 (by omega)]; exact b1 c (by omega)
    have fh : ∀ c, 53 ≤ c → c < 57 → M2 c = M c := fun c c0 c1 => by rw [m1 c (by omega) (by omega) (by omega) (by omega) (by omega) (by omega)]; exact f52 c (by omega)
    have f2 : ∀ j, j ≠ 0 → j ≠ 8 → j ≠ 9 → j ≠ 10 → (j < 16 ∨ 23 ≤ j) → M2 52 j = M 52 j := fun j j0 j1 j2 j3 j4 => by rw [m2 j j0 j1 j2 j3 j4, f52 52 (by omega)]
    have z0 : M2 0 = em_up (em_up M' 0 5 (nI 1)) 0 6 (nI 0) 0 := m1 0 (by omega) (by omega) (by omega) (by omega) (by omega) (by omega)
    have w20 := a6.2.2.2
    have hsw : s.2.1.2 ≤ w := hok.2.1
    refine hp _ _ ⟨sc, so, we, ky, w, s.2.1.2, cS_c a1 (fun k _ _ => fm k (by omega) (by omega)), mS_c a2 (fh 53 (by omega) (by omega)), cQ_c a3 (fm 41 (by omega) (by omega)) (fm 42 (by omega) (by omega)), mQ_c a4 (fh 55 (by omega) (by omega)) (fh 56 (by omega) (by omega)), jK_c a5 (fm 3 (by omega) (by omega)) (fh 54 (by omega) (by omega)), jW_c a6 (by rw [fm 40 (by omega) (by omega)]) (f2 5 (by omega) (by omega) (by omega) (by omega) (by omega)), jP_c a7 (by rw [fm 40 (by omega) (by omega)]) (by rw [fm 40 (by omega) (by omega)]) (by rw [fm 40 (by omega) (by omega)]) (f2 6 (by omega) (by omega) (by omega) (by omega) (by omega)) (f2 7 (by omega) (by omega) (by omega) (by omega) (by omega)), ⟨?_, m3, by omega, fun j hj => ?_, ?_, ?_, ?_, ?_⟩, ?_⟩
    · rw [fl' 43 (by omega) (by omega)]; exact b2
    · have er : rC M2 j = rM M2 j := by
        have e1 : rC M2 j = rC M' j := by
          unfold rC
          rw [fl' 44 (by omega) (by omega), fl' 45 (by omega) (by omega), fl' 46 (by omega) (by omega), fl' 47 (by omega) (by omega)]
        rw [e1, b3 j hj, m4 j hj]
      unfold rC rM at er
      simpa only [Prod.mk.injEq] using er
    · rw [m6, z0, eu_j (by omega), eu_eq]
    · rw [m5, z0, eu_eq]
    · rw [z0, eu_j (by omega), eu_eq]; exact Or.inr rfl
    · rw [z0, eu_eq]; exact Or.inl rfl
    · unfold jT
      rw [fl' 48 (by omega) (by omega), fm 51 (by omega) (by omega), d1, d2, d3, d4, d5, h10, h11, g1, g2, g3, g4, g5, h21, h22, f2 23 (by omega) (by omega) (by omega) (by omega) (by omega), f2 24 (by omega) (by omega) (by omega) (by omega) (by omega)]
      obtain ⟨t1, t2, t3, t4, t5, t6, t7, t8, t9⟩ := a9
      exact ⟨rfl, rfl, rfl, rfl, rfl, rfl, rfl, t8, t9⟩
  · simp only [forall_eq, wp_MD_walk]
    exact m_in (fun b c => absurd ⟨b, c⟩ a) (fun _ => ⟨fun c => absurd rfl c, fun _ => hp _ _ (JJ_thr H)⟩)
