/-! KEYS -/
def gkN (ky : Nat → Int32) (sm : Nat → Bool) (base : Int32) (s : Nat) : Nat → Int32
  | 0 => base
  | k + 1 => if sm (s + k) = true ∧ gkN ky sm base s k < ky (s + k) then ky (s + k) else gkN ky sm base s k
def eK (sc : Nat → Nat → Nat) (so we : Nat → Nat) (ky : Nat → Int32) (o : Nat) : RR := (nI o, ky o, nI (smS sc so we o), ky o)
def hS1 (w : Nat) (e : RR) (s : (Nat → RR) × Nat) : (Nat → RR) × Nat := (insR s.1 e (posR s.1 e s.2), if s.2 = w then s.2 else s.2 + 1)
def zgo (sc : Nat → Nat → Nat) (so we : Nat → Nat) (ky : Nat → Int32) (w s : Nat) (h : (Nat → RR) × Nat) : Nat → (Nat → RR) × Nat
  | 0 => h
  | k + 1 => if fitN sc so (s + k) = true then hS1 w (eK sc so we ky (s + k)) (zgo sc so we ky w s h k) else zgo sc so we ky w s h k
def kst (sc : Nat → Nat → Nat) (so we : Nat → Nat) (ky : Nat → Int32) (w : Nat) : Nat → ((Nat → RR) × Nat) × Nat × Nat
  | 0 => ((fun _ => (0, 0, 0, 0), 0), 0, 0)
  | i + 1 => if gkN ky (somewN sc) (-1001) (16 * i) 16 = -1001 then kst sc so we ky w i else if (kst sc so we ky w i).1.2 = w ∧ gkN ky (somewN sc) (-1001) (16 * i) 16 ≤ ((kst sc so we ky w i).1.1 (w - 1)).2.1 then ((kst sc so we ky w i).1, (kst sc so we ky w i).2.1 + 1, (kst sc so we ky w i).2.2 + 1) else (zgo sc so we ky w (16 * i) (kst sc so we ky w i).1 16, (kst sc so we ky w i).2.1 + 1, (kst sc so we ky w i).2.2)
theorem hS1_le {w : Nat} {e : RR} {s : (Nat → RR) × Nat} (h : s.2 ≤ w) : (hS1 w e s).2 ≤ w := by
  unfold hS1
  show (if s.2 = w then s.2 else s.2 + 1) ≤ w
  split <;> omega
theorem zgo_le {sc : Nat → Nat → Nat} {so we : Nat → Nat} {ky : Nat → Int32} {w s : Nat} {h : (Nat → RR) × Nat} (hh : h.2 ≤ w) : ∀ k, (zgo sc so we ky w s h k).2 ≤ w
  | 0 => hh
  | k + 1 => by
    have ih := zgo_le (sc := sc) (so := so) (we := we) (ky := ky) (s := s) hh k
    simp only [zgo]
    split
    · exact hS1_le ih
    · exact ih
theorem kst_le {sc : Nat → Nat → Nat} {so we : Nat → Nat} {ky : Nat → Int32} {w : Nat} : ∀ i, (kst sc so we ky w i).1.2 ≤ w
  | 0 => Nat.zero_le _
  | i + 1 => by
    have ih := kst_le (sc := sc) (so := so) (we := we) (ky := ky) (w := w) i
    simp only [kst]
    split
    · exact ih
    · split
      · exact ih
      · exact zgo_le ih 16
theorem kst_z {sc : Nat → Nat → Nat} {so we : Nat → Nat} {ky : Nat → Int32} {w : Nat} : ∀ i, (kst sc so we ky w i).2.1 ≤ i ∧ (kst sc so we ky w i).2.2 ≤ i
  | 0 => ⟨Nat.le_refl _, Nat.le_refl _⟩
  | i + 1 => by
    have ih := kst_z (sc := sc) (so := so) (we := we) (ky := ky) (w := w) i
    simp only [kst]
    split
    · exact ⟨by omega, by omega⟩
    · split
      · exact ⟨by omega, by omega⟩
      · exact ⟨by omega, by omega⟩
theorem q_greatestKeyBetween {post : Int32 → Prop} {sc : Nat → Nat → Nat} {ky : Nat → Int32} {M : em_M} {s t : Nat} (h : cS sc M) (hk : ∀ o, o < 512 → M 3 o = ky o) (ht : s + t ≤ 512) (hp : post (gkN ky (somewN sc) (-1001) s t)) : wp_SF_greatestKeyBetween post (nI s) (nI (s + t)) M := by
  unfold wp_SF_greatestKeyBetween
  refine lpA (by omega) (by omega) (fun k a => a = gkN ky (somewN sc) (-1001) s (k - s)) (by rw [Nat.sub_self]; rfl) (fun a e => by rw [show s + t - s = t by omega] at e; exact e ▸ hp) ?_
  rintro I mu k _ hk1 hk2 rfl st
  have ek : k + 1 - s = (k - s) + 1 := by omega
  have es : s + (k - s) = k := by omega
  have stp : ∀ a', a' = gkN ky (somewN sc) (-1001) s (k + 1 - s) → I a' (nI k + nI 1) ∧ mu a' (nI k + nI 1) < mu (gkN ky (somewN sc) (-1001) s (k - s)) (nI k) := fun a' ha => st a' ha
  simp (disch := omega) only [n_in, nI_clamp, em_join, forall_eq, hk k (by omega)]
  refine ⟨by omega, fun c => stp _ ?_, fun c => q_has h (by omega) ?_⟩
  · rw [ek]; simp only [gkN, es]
    rw [if_neg (fun q => absurd q.2 (Int32.not_lt.mpr c))]
  · rw [bI_0]
    refine ⟨fun d => stp _ ?_, fun d => stp _ ?_⟩
    · rw [ek]; simp only [gkN, es]
      rw [if_neg (fun q => by rw [d] at q; exact absurd q.1 (by decide))]
    · rw [ek]; simp only [gkN, es]
      rw [if_pos ⟨by simpa using d, Int32.not_le.mp c⟩]
/-- the class, while it goes by keys -/
def kC (M0 : em_M) (w : Nat) (s : ((Nat → RR) × Nat) × Nat × Nat) (M : em_M) : Prop := (∀ c, c ≠ 43 → c ≠ 44 → c ≠ 45 → c ≠ 46 → c ≠ 47 → c ≠ 51 → M c = M0 c) ∧ hC s.1.1 s.1.2 M ∧ M 43 5 = nI w ∧ M 51 3 = nI s.2.1 ∧ M 51 4 = nI s.2.2
theorem kC_S {sc : Nat → Nat → Nat} {M0 M : em_M} {w : Nat} {s : ((Nat → RR) × Nat) × Nat × Nat} (h : kC M0 w s M) (hS : cS sc M0) : cS sc M := cS_c hS (fun k _ _ => h.1 k (by omega) (by omega) (by omega) (by omega) (by omega) (by omega))
theorem kC_Q {so we : Nat → Nat} {M0 M : em_M} {w : Nat} {s : ((Nat → RR) × Nat) × Nat × Nat} (h : kC M0 w s M) (hS : cQ so we M0) : cQ so we M := cQ_c hS (h.1 41 (by omega) (by omega) (by omega) (by omega) (by omega) (by omega)) (h.1 42 (by omega) (by omega) (by omega) (by omega) (by omega) (by omega))
theorem q_goThrough {post : em_M → Prop} {sc : Nat → Nat → Nat} {so we : Nat → Nat} {ky : Nat → Int32} {M0 M : em_M} {w s z p : Nat} {g : Int32} {h : (Nat → RR) × Nat} (hS : cS sc M0) (hQ : cQ so we M0) (hk : ∀ o, o < 512 → M0 3 o = ky o) (H : kC M0 w (h, z, p) M) (hw1 : 1 ≤ w) (hw : w ≤ 20) (hn : h.2 ≤ w) (hs : s + 16 ≤ 512) (hz : p < 1000)
    (hp : ∀ M', kC M0 w (if h.2 = w ∧ g ≤ (h.1 (w - 1)).2.1 then (h, z, p + 1) else (zgo sc so we ky w s h 16, z, p)) M' → post M') : wp_KS_goThrough post (nI s) g M := by
  have go : ¬ (h.2 = w ∧ g ≤ (h.1 (w - 1)).2.1) → ∃ (I_9 : Int32 → em_M → Prop) (mu_9 : Int32 → em_M → Nat), I_9 (nI s) M ∧ ∀ (x3_10 : Int32) (M_11 : em_M) , I_9 x3_10 M_11 → (((nI s + (nI 16)) ≤ x3_10 → post M_11) ∧ (¬ (nI s + (nI 16)) ≤ x3_10 → wp_QU_admits (fun (r_14 : Int32) => (em_join (fun (M_22 : em_M)  => ∀ x3_23 : Int32, x3_23 = x3_10 + nI 1 → ((I_9 x3_23 M_22 ∧ mu_9 x3_23 M_22 < mu_9 x3_10 M_11))) (fun J_15 : em_M → Prop => ((r_14 = 0 → (J_15 M_11)) ∧ (¬ r_14 = 0 → (vp_in x3_10 512 ∧ ∀ x4_26 : Int32, x4_26 = (M_11 (3) x3_10.toNatClampNeg) → (wp_QU_sumOf (fun (r_28 : Int32) => wp_RK_offer (fun (M_29 : em_M) => (J_15 M_29)) x3_10 x4_26 r_28 x4_26 M_11) x3_10 M_11))))))) x3_10 M_11)) := by
    intro hc
    rw [nI_add]
    refine lpM (by omega) (by omega) (fun k M' => kC M0 w (zgo sc so we ky w s h (k - s), z, p) M') (by rw [Nat.sub_self]; exact H) (fun M' q => hp M' (by rw [if_neg hc]; rw [show s + 16 - s = 16 by omega] at q; exact q)) ?_
    intro I mu k M' k1 k2 q st
    have ek : k + 1 - s = (k - s) + 1 := by omega
    have es : s + (k - s) = k := by omega
    refine q_admits (kC_S q hS) (kC_Q q hQ) (by omega) ?_
    simp (disch := omega) only [em_join, forall_eq, bI_0, n_in, nI_clamp]
    refine ⟨fun c => st _ ?_, fun c => ⟨by omega, q_sumOf (kC_S q hS) (kC_Q q hQ) (by omega) ?_⟩⟩
    · rw [ek]; simp only [zgo, es]
      rw [if_neg (by rw [c]; decide)]
      exact q
    · have e3 : M' 3 k = ky k := by rw [q.1 3 (by omega) (by omega) (by omega) (by omega) (by omega) (by omega)]; exact hk k (by omega)
      rw [e3]
      refine q_offer q.2.1 q.2.2.1 hw1 hw (zgo_le hn _) (fun M2 s1 s2 s3 => st _ ?_)
      rw [ek]; simp only [zgo, es]
      rw [if_pos (by simpa using c)]
      refine ⟨fun c c1 c2 c3 c4 c5 c6 => by rw [s1 c c1 c2 c3 c4 c5]; exact q.1 c c1 c2 c3 c4 c5 c6, s3, s2, ?_, ?_⟩
      · rw [s1 51 (by omega) (by omega) (by omega) (by omega) (by omega)]; exact q.2.2.2.1
      · rw [s1 51 (by omega) (by omega) (by omega) (by omega) (by omega)]; exact q.2.2.2.2
  obtain ⟨H1, ⟨H2, H3⟩, H4, H5, H6⟩ := id H
  simp only at H2 H3 H5 H6
  simp (disch := omega) only [wp_KS_goThrough, wp_RK_isFull, H2, H4, nI_ltI]
  simp only [em_join] at go ⊢
  refine ⟨fun c => ⟨fun _ => go (by omega), fun q => absurd rfl q⟩, fun c => ⟨fun q => absurd q nI_10, fun _ => ?_⟩⟩
  have en : h.2 = w := by omega
  simp (disch := omega) only [wp_RK_leastNumber, H2, nz_le]
  refine ⟨fun q => absurd q (by omega), fun _ => ?_⟩
  rw [pk_sub (by omega)]
  simp (disch := omega) only [n_in, nI_clamp, forall_eq]
  have er : M 45 (h.2 - 1) = (h.1 (w - 1)).2.1 := by
    rw [en, ← H3 (w - 1) (by omega)]; rfl
  refine ⟨by omega, ?_⟩
  rw [er, H6]
  refine ⟨fun d => go (fun q => absurd d (Int32.not_lt.mpr q.2)), fun d => hp _ ?_⟩
  rw [if_pos ⟨en, Int32.not_lt.mp d⟩, nI_add]
  refine ⟨fun c c1 c2 c3 c4 c5 c6 => by rw [eu_ne c6]; exact H1 c c1 c2 c3 c4 c5 c6, ⟨by rw [eu_ne (by omega)]; exact H2, fun j hj => ?_⟩, by rw [eu_ne (by omega)]; exact H4, by rw [eu_j (by omega)]; exact H5, by rw [eu_eq]⟩
  have e : rC (em_up M 51 4 (nI (p + 1))) j = rC M j := by
    unfold rC
    simp (disch := omega) only [eu_ne]
  rw [e]; exact H3 j hj
theorem q_KS_run {post : em_M → Prop} {sc : Nat → Nat → Nat} {so we : Nat → Nat} {ky : Nat → Int32} {M0 : em_M} {w : Nat} (hS : cS sc M0) (hQ : cQ so we M0) (hk : ∀ o, o < 512 → M0 3 o = ky o) (hw0 : M0 40 3 = nI w) (hw1 : 1 ≤ w) (hw : w ≤ 20) (hp : ∀ M', kC M0 w (kst sc so we ky w 32) M' → post M') : wp_KS_run post M0 := by
  simp only [wp_KS_run, wp_RK_begin, forall_eq, hw0]
  have ew : (if nI 20 < nI w then nI 20 else nI w) = nI w := by
    rw [if_neg]
    rw [nI_ltI (by omega) (by omega)]; omega
  rw [ew]
  refine ⟨fun x M => ∃ i, i ≤ 32 ∧ x = nI (16 * i) ∧ kC M0 w (kst sc so we ky w i) M, fun x _ => 512 - x.toNatClampNeg, ⟨0, by omega, rfl, ?_⟩, ?_⟩
  · refine ⟨fun c c1 c2 c3 c4 c5 c6 => by simp (disch := omega) only [eu_ne], ⟨by simp (disch := omega) only [eu_ne, eu_j, eu_eq]; rfl, fun j hj => absurd hj (Nat.not_lt_zero _)⟩, by simp (disch := omega) only [eu_ne, eu_eq], by simp (disch := omega) only [eu_j, eu_eq]; rfl, by simp (disch := omega) only [eu_eq]; rfl⟩
  rintro _ M ⟨i, i1, rfl, H⟩
  rw [nI_leI (by omega) (by omega)]
  refine ⟨fun c => hp M (by rw [show i = 32 by omega] at H; exact H), fun c => ?_⟩
  rw [nI_add, nI_add]
  have hz := kst_z (sc := sc) (so := so) (we := we) (ky := ky) (w := w) i
  have stp : ∀ M', kC M0 w (kst sc so we ky w (i + 1)) M' → (∃ i', i' ≤ 32 ∧ nI (16 * i + 16) = nI (16 * i') ∧ kC M0 w (kst sc so we ky w i') M') ∧ 512 - (nI (16 * i + 16)).toNatClampNeg < 512 - (nI (16 * i)).toNatClampNeg := by
    intro M' h
    refine ⟨⟨i + 1, by omega, by rw [show 16 * i + 16 = 16 * (i + 1) by omega], h⟩, ?_⟩
    rw [nI_clamp (by omega), nI_clamp (by omega)]; omega
  refine q_greatestKeyBetween (kC_S H hS) (fun o ho => by rw [H.1 3 (by omega) (by omega) (by omega) (by omega) (by omega) (by omega)]; exact hk o ho) (by omega) ?_
  simp only [em_join, forall_eq]
  refine ⟨fun d => stp M (by simp only [kst]; rw [if_pos d]; exact H), fun d => ?_⟩
  rw [H.2.2.2.1, nI_add]
  have H' : kC M0 w ((kst sc so we ky w i).1, (kst sc so we ky w i).2.1 + 1, (kst sc so we ky w i).2.2) (em_up M 51 3 (nI ((kst sc so we ky w i).2.1 + 1))) := by
    obtain ⟨H1, ⟨H2, H3⟩, H4, H5, H6⟩ := H
    refine ⟨fun c c1 c2 c3 c4 c5 c6 => by rw [eu_ne c6]; exact H1 c c1 c2 c3 c4 c5 c6, ⟨by rw [eu_ne (by omega)]; exact H2, fun j hj => ?_⟩, by rw [eu_ne (by omega)]; exact H4, by rw [eu_eq], by rw [eu_j (by omega)]; exact H6⟩
    have e : rC (em_up M 51 3 (nI ((kst sc so we ky w i).2.1 + 1))) j = rC M j := by
      unfold rC
      simp (disch := omega) only [eu_ne]
    rw [e]; exact H3 j hj
  refine q_goThrough hS hQ hk H' hw1 hw (kst_le i) (by omega) (by omega) (fun M' h => stp M' ?_)
  simp only [kst]
  rw [if_neg d]
  split at h
  · next q => rw [if_pos q]; exact h
  · next q => rw [if_neg q]; exact h
theorem gk_rel {ky : Nat → Int32} {sm : Nat → Bool} {s : Nat} (hk : ∀ o, o < s + 16 → (-1000 : Int32) ≤ ky o) : ∀ k, k ≤ 16 → (gkN ky sm (-1001) s k = -1001 ∧ gkN ky sm (-2000) s k = -2000) ∨ (gkN ky sm (-1001) s k = gkN ky sm (-2000) s k ∧ (-1000 : Int32) ≤ gkN ky sm (-2000) s k)
  | 0, _ => Or.inl ⟨rfl, rfl⟩
  | k + 1, hk1 => by
    have ih := gk_rel (sm := sm) hk k (by omega)
    have hb := hk (s + k) (by omega)
    simp only [gkN]
    by_cases c : sm (s + k) = true
    · rcases ih with ⟨i1, i2⟩ | ⟨i1, i2⟩
      · rw [i1, i2, if_pos ⟨c, Int32.lt_of_lt_of_le (by decide) hb⟩, if_pos ⟨c, Int32.lt_of_lt_of_le (by decide) hb⟩]
        exact Or.inr ⟨rfl, hb⟩
      · rw [i1]
        refine Or.inr ⟨rfl, ?_⟩
        split
        · exact hb
        · exact i2
    · rw [if_neg (fun q => c q.1), if_neg (fun q => c q.1)]
      exact ih
