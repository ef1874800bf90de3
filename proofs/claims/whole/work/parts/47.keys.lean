/-! KEYS -/
def gkN (ky : Nat → Int32) (sm : Nat → Bool) (base : Int32) (s : Nat) : Nat → Int32
  | 0 => base
  | k + 1 => if sm (s + k) = true ∧ gkN ky sm base s k < ky (s + k) then ky (s + k) else gkN ky sm base s k
def eK (sc : Nat → Nat → Nat) (so we : Nat → Nat) (ky : Nat → Int32) (o : Nat) : RR := (nI o, ky o, nI (smS sc so we o), ky o)
def hS1 (w : Nat) (e : RR) (s : (Nat → RR) × Nat) : (Nat → RR) × Nat := (insR s.1 e (posR s.1 e s.2), if s.2 = w then s.2 else s.2 + 1)
def zgo (sc : Nat → Nat → Nat) (so we : Nat → Nat) (ky : Nat → Int32) (w s : Nat) (h : (Nat → RR) × Nat) : Nat → (Nat → RR) × Nat
  | 0 => h
  | k + 1 => if fitN sc so (s + k) = true then hS1 w (eK sc so we ky (s + k)) (zgo sc so we ky w s h k) else zgo sc so we ky w s h k
def kst (sc : Nat → Nat → Nat) (so we : Nat → Nat) (ky : Nat → Int32) (w : Nat) : Nat → ((Nat → RR) × Nat) × Nat × Nat
  | 0 => ((fun _ => (0, 0, 0, 0), 0), 0, 0)
  | i + 1 => if gkN ky (somewN sc) (-1001) (16 * i) 16 = -1001 then kst sc so we ky w i else if (kst sc so we ky w i).1.2 = w ∧ gkN ky (somewN sc) (-1001) (16 * i) 16 ≤ ((kst sc so we ky w i).1.1 (w - 1)).2.1 then ((kst sc so we ky w i).1, (kst sc so we ky w i).2.1 + 1, (kst sc so we ky w i).2.2 + 1) else (zgo sc so we ky w (16 * i) (kst sc so we ky w i).1 16, (kst sc so we ky w i).2.1 + 1, (kst sc so we ky w i).2.2)
theorem hS1_le {w : Nat} {e : RR} {s : (Nat → RR) × Nat} (h : s.2 ≤ w) : (hS1 w e s).2 ≤ w := by
  unfold hS1
  show (if s.2 = w then s.2 else s.2 + 1) ≤ w
  split <;> omega
theorem zgo_le {sc : Nat → Nat → Nat} {so we : Nat → Nat} {ky : Nat → Int32} {w s : Nat} {h : (Nat → RR) × Nat} (hh : h.2 ≤ w) : ∀ k, (zgo sc so we ky w s h k).2 ≤ w
  | 0 => hh
  | k + 1 => by
    have ih := zgo_le (sc := sc) (so := so) (we := we) (ky := ky) (s := s) hh k
    simp only [zgo]
    split
    · exact hS1_le ih
    · exact ih
theorem kst_le {sc : Nat → Nat → Nat} {so we : Nat → Nat} {ky : Nat → Int32} {w : Nat} : ∀ i, (kst sc so we ky w i).1.2 ≤ w
  | 0 => Nat.zero_le _
  | i + 1 => by
    have ih := kst_le (sc := sc) (so := so) (we := we) (ky := ky) (w := w) i
    simp only [kst]
    split
    · exact ih
    · split
      · exact ih
      · exact zgo_le ih 16
theorem kst_z {sc : Nat → Nat → Nat} {so we : Nat → Nat} {ky : Nat → Int32} {w : Nat} : ∀ i, (kst sc so we ky w i).2.1 ≤ i ∧ (kst sc so we ky w i).2.2 ≤ i
  | 0 => ⟨Nat.le_refl _, Nat.le_refl _⟩
  | i + 1 => by
    have ih := kst_z (sc := sc) (so := so) (we := we) (ky := ky) (w := w) i
    simp only [kst]
    split
    · exact ⟨by omega, by omega⟩
    · split
      · exact ⟨Nat.succ_le_succ ih.1, Nat.succ_le_succ ih.2⟩
      · exact ⟨Nat.succ_le_succ ih.1, Nat.le_succ_of_le ih.2⟩
theorem q_greatestKeyBetween {post : Int32 → Prop} {sc : Nat → Nat → Nat} {ky : Nat → Int32} {M : em_M} {s t : Nat} (h : cS sc M) (hk : ∀ o, o < 512 → M 3 o = ky o) (ht : s + t ≤ 512) (hp : post (gkN ky (somewN sc) (-1001) s t)) : wp_SF_greatestKeyBetween post (nI s) (nI (s + t)) M := by
  unfold wp_SF_greatestKeyBetween
  refine lpA (by omega) (by omega) (fun k a => a = gkN ky (somewN sc) (-1001) s (k - s)) (by rw [Nat.sub_self]; rfl) (fun a e => by rw [show s + t - s = t by omega] at e; exact e ▸ hp) ?_
  rintro I mu k _ hk1 hk2 rfl st
  have ek : k + 1 - s = (k - s) + 1 := by omega
  have es : s + (k - s) = k := by omega
  have stp : ∀ a', a' = gkN ky (somewN sc) (-1001) s (k + 1 - s) → I a' (nI k + nI 1) ∧ mu a' (nI k + nI 1) < mu (gkN ky (somewN sc) (-1001) s (k - s)) (nI k) := fun a' ha => st a' ha
  simp (disch := omega) only [n_in, nI_clamp, em_join, forall_eq, hk k (by omega)]
  refine ⟨by omega, fun c => stp _ ?_, fun c => q_has h (by omega) ?_⟩
  · rw [ek]; simp only [gkN, es]
    rw [if_neg (fun q => absurd q.2 (Int32.not_lt.mpr c))]
  · rw [bI_0]
    refine ⟨fun d => stp _ ?_, fun d => stp _ ?_⟩
    · rw [ek]; simp only [gkN, es]
      rw [if_neg (fun q => by rw [d] at q; exact absurd q.1 (by decide))]
    · rw [ek]; simp only [gkN, es]
      rw [if_pos ⟨by simpa using d, Int32.not_le.mp c⟩]
/-- the class, while it goes by keys -/
def kC (M0 : em_M) (w : Nat) (s : ((Nat → RR) × Nat) × Nat × Nat) (M : em_M) : Prop := (∀ c, c ≠ 43 → c ≠ 44 → c ≠ 45 → c ≠ 46 → c ≠ 47 → c ≠ 51 → M c = M0 c) ∧ hC s.1.1 s.1.2 M ∧ M 43 5 = nI w ∧ M 51 3 = nI s.2.1 ∧ M 51 4 = nI s.2.2
theorem kC_S {sc : Nat → Nat → Nat} {M0 M : em_M} {w : Nat} {s : ((Nat → RR) × Nat) × Nat × Nat} (h : kC M0 w s M) (hS : cS sc M0) : cS sc M := cS_c hS (fun k _ _ => h.1 k (by omega) (by omega) (by omega) (by omega) (by omega) (by omega))
theorem kC_Q {so we : Nat → Nat} {M0 M : em_M} {w : Nat} {s : ((Nat → RR) × Nat) × Nat × Nat} (h : kC M0 w s M) (hS : cQ so we M0) : cQ so we M := cQ_c hS (h.1 41 (by omega) (by omega) (by omega) (by omega) (by omega) (by omega)) (h.1 42 (by omega) (by omega) (by omega) (by omega) (by omega) (by omega))
theorem q_goThrough {post : em_M → Prop} {sc : Nat → Nat → Nat} {so we : Nat → Nat} {ky : Nat → Int32} {M0 M : em_M} {w s z p : Nat} {g : Int32} {h : (Nat → RR) × Nat} (hS : cS sc M0) (hQ : cQ so we M0) (hk : ∀ o, o < 512 → M0 3 o = ky o) (H : kC M0 w (h, z, p) M) (hw1 : 1 ≤ w) (hw : w ≤ 20) (hn : h.2 ≤ w) (hs : s + 16 ≤ 512) (hz : p < 1000)
    (hp : ∀ M', kC M0 w (if h.2 = w ∧ g ≤ (h.1 (w - 1)).2.1 then (h, z, p + 1) else (zgo sc so we ky w s h 16, z, p)) M' → post M') : wp_KS_goThrough post (nI s) g M := by
  have go : ¬ (h.2 = w ∧ g ≤ (h.1 (w - 1)).2.1) → ∃ (I_9 : Int32 → em_M → Prop) (mu_9 : Int32 → em_M → Nat), I_9 (nI s) M ∧ ∀ (x3_10 : Int32) (M_11 : em_M) , I_9 x3_10 M_11 → (((nI s + (nI 16)) ≤ x3_10 → post M_11) ∧ (¬ (nI s + (nI 16)) ≤ x3_10 → wp_QU_admits (fun (r_14 : Int32) => (em_join (fun (M_22 : em_M)  => ∀ x3_23 : Int32, x3_23 = x3_10 + nI 1 → ((I_9 x3_23 M_22 ∧ mu_9 x3_23 M_22 < mu_9 x3_10 M_11))) (fun J_15 : em_M → Prop => ((r_14 = 0 → (J_15 M_11)) ∧ (¬ r_14 = 0 → (vp_in x3_10 512 ∧ ∀ x4_26 : Int32, x4_26 = (M_11 (3) x3_10.toNatClampNeg) → (wp_QU_sumOf (fun (r_28 : Int32) => wp_RK_offer (fun (M_29 : em_M) => (J_15 M_29)) x3_10 x4_26 r_28 x4_26 M_11) x3_10 M_11))))))) x3_10 M_11)) := by
    intro hc
    rw [nI_add]
    refine lpM (by omega) (by omega) (fun k M' => kC M0 w (zgo sc so we ky w s h (k - s), z, p) M') (by rw [Nat.sub_self]; exact H) (fun M' q => hp M' (by rw [if_neg hc]; rw [show s + 16 - s = 16 by omega] at q; exact q)) ?_
    intro I mu k M' k1 k2 q st
    have ek : k + 1 - s = (k - s) + 1 := by omega
    have es : s + (k - s) = k := by omega
    refine q_admits (kC_S q hS) (kC_Q q hQ) (by omega) ?_
    simp (disch := omega) only [em_join, forall_eq, bI_0, n_in, nI_clamp]
    refine ⟨fun c => st _ ?_, fun c => ⟨by omega, q_sumOf (kC_S q hS) (kC_Q q hQ) (by omega) ?_⟩⟩
    · rw [ek]; simp only [zgo, es]
      rw [if_neg (by rw [c]; decide)]
      exact q
    · have e3 : M' 3 k = ky k := by rw [q.1 3 (by omega) (by omega) (by omega) (by omega) (by omega) (by omega)]; exact hk k (by omega)
      rw [e3]
      refine q_offer q.2.1 q.2.2.1 hw1 hw (zgo_le hn _) (fun M2 s1 s2 s3 => st _ ?_)
      rw [ek]; simp only [zgo, es]
      rw [if_pos (by simpa using c)]
      refine ⟨fun c c1 c2 c3 c4 c5 c6 => by rw [s1 c c1 c2 c3 c4 c5]; exact q.1 c c1 c2 c3 c4 c5 c6, s3, s2, ?_, ?_⟩
      · rw [s1 51 (by omega) (by omega) (by omega) (by omega) (by omega)]; exact q.2.2.2.1
      · rw [s1 51 (by omega) (by omega) (by omega) (by omega) (by omega)]; exact q.2.2.2.2
  obtain ⟨H1, ⟨H2, H3⟩, H4, H5, H6⟩ := id H
  simp only at H2 H3 H5 H6
  simp (disch := omega) only [wp_KS_goThrough, wp_RK_isFull, H2, H4, nI_ltI]
  simp only [em_join, forall_eq] at go ⊢
  refine ⟨fun c => ⟨fun _ => go (by omega), fun q => absurd rfl q⟩, fun c => ⟨fun q => absurd q nI_10, fun _ => ?_⟩⟩
  have en : h.2 = w := by omega
  simp (disch := omega) only [wp_RK_leastNumber, H2, nz_le]
  refine ⟨fun q => absurd q (by omega), fun _ => ?_⟩
  rw [pk_sub (by omega)]
  simp (disch := omega) only [n_in, nI_clamp, forall_eq]
  have er : M 45 (h.2 - 1) = (h.1 (w - 1)).2.1 := by
    rw [en, ← H3 (w - 1) (by omega)]; rfl
  refine ⟨by omega, ?_⟩
  rw [er, H6]
  refine ⟨fun d => go (fun q => absurd d (Int32.not_lt.mpr q.2)), fun d => hp _ ?_⟩
  rw [if_pos ⟨en, Int32.not_lt.mp d⟩, nI_add]
  refine ⟨fun c c1 c2 c3 c4 c5 c6 => by rw [eu_ne c6]; exact H1 c c1 c2 c3 c4 c5 c6, ⟨by rw [eu_ne (by omega)]; exact H2, fun j hj => ?_⟩, by rw [eu_ne (by omega)]; exact H4, by rw [eu_j (by omega)]; exact H5, by rw [eu_eq]⟩
  have e : rC (em_up M 51 4 (nI (p + 1))) j = rC M j := by
    unfold rC
    simp (disch := omega) only [eu_ne]
  rw [e]; exact H3 j hj
theorem q_KS_run {post : em_M → Prop} {sc : Nat → Nat → Nat} {so we : Nat → Nat} {ky : Nat → Int32} {M0 : em_M} {w : Nat} (hS : cS sc M0) (hQ : cQ so we M0) (hk : ∀ o, o < 512 → M0 3 o = ky o) (hw0 : M0 40 3 = nI w) (hw1 : 1 ≤ w) (hw : w ≤ 20) (hp : ∀ M', kC M0 w (kst sc so we ky w 32) M' → post M') : wp_KS_run post M0 := by
  simp only [wp_KS_run, wp_RK_begin, forall_eq, hw0]
  have ew : (if nI 20 < nI w then nI 20 else nI w) = nI w := by
    rw [if_neg]
    rw [nI_ltI (by omega) (by omega)]; omega
  rw [ew]
  refine ⟨fun x M => ∃ i, i ≤ 32 ∧ x = nI (16 * i) ∧ kC M0 w (kst sc so we ky w i) M, fun x _ => 512 - x.toNatClampNeg, ⟨0, by omega, rfl, ?_⟩, ?_⟩
  · refine ⟨fun c c1 c2 c3 c4 c5 c6 => by simp (disch := omega) only [eu_ne], ⟨by simp (disch := omega) only [eu_ne, eu_j, eu_eq]; rfl, fun j hj => absurd hj (Nat.not_lt_zero _)⟩, by simp (disch := omega) only [eu_ne, eu_eq], by simp (disch := omega) only [eu_j, eu_eq]; rfl, by simp (disch := omega) only [eu_eq]; rfl⟩
  rintro _ M ⟨i, i1, rfl, H⟩
  rw [nI_leI (by omega) (by omega)]
  refine ⟨fun c => hp M (by rw [show i = 32 by omega] at H; exact H), fun c => ?_⟩
  rw [nI_add]
  have hz := kst_z (sc := sc) (so := so) (we := we) (ky := ky) (w := w) i
  have stp : ∀ M', kC M0 w (kst sc so we ky w (i + 1)) M' → (∃ i', i' ≤ 32 ∧ nI (16 * i + 16) = nI (16 * i') ∧ kC M0 w (kst sc so we ky w i') M') ∧ 512 - (nI (16 * i + 16)).toNatClampNeg < 512 - (nI (16 * i)).toNatClampNeg := by
    intro M' h
    refine ⟨⟨i + 1, by omega, by rw [show 16 * i + 16 = 16 * (i + 1) by omega], h⟩, ?_⟩
    rw [nI_clamp (by omega), nI_clamp (by omega)]; omega
  refine q_greatestKeyBetween (ky := ky) (kC_S H hS) (fun o ho => by rw [H.1 3 (by omega) (by omega) (by omega) (by omega) (by omega) (by omega)]; exact hk o ho) (by omega) ?_
  simp only [em_join, forall_eq, nI_add]
  refine ⟨fun d => stp M (by simp only [kst]; rw [if_pos d]; exact H), fun d => ?_⟩
  rw [H.2.2.2.1, nI_add]
  have H' : kC M0 w ((kst sc so we ky w i).1, (kst sc so we ky w i).2.1 + 1, (kst sc so we ky w i).2.2) (em_up M 51 3 (nI ((kst sc so we ky w i).2.1 + 1))) := by
    obtain ⟨H1, ⟨H2, H3⟩, H4, H5, H6⟩ := H
    refine ⟨fun c c1 c2 c3 c4 c5 c6 => by rw [eu_ne c6]; exact H1 c c1 c2 c3 c4 c5 c6, ⟨by rw [eu_ne (by omega)]; exact H2, fun j hj => ?_⟩, by rw [eu_ne (by omega)]; exact H4, by rw [eu_eq], by rw [eu_j (by omega)]; exact H6⟩
    have e : rC (em_up M 51 3 (nI ((kst sc so we ky w i).2.1 + 1))) j = rC M j := by
      unfold rC
      simp (disch := omega) only [eu_ne]
    rw [e]; exact H3 j hj
  refine q_goThrough hS hQ hk H' hw1 hw (kst_le i) (by omega) (by omega) (fun M' h => stp M' ?_)
  simp only [kst]
  rw [if_neg d]
  split at h
  · next q => rw [if_pos q]; exact h
  · next q => rw [if_neg q]; exact h
theorem gk_rel {ky : Nat → Int32} {sm : Nat → Bool} {s : Nat} (hk : ∀ o, o < s + 16 → (-1000 : Int32) ≤ ky o) : ∀ k, k ≤ 16 → (gkN ky sm (-1001) s k = -1001 ∧ gkN ky sm (-2000) s k = -2000) ∨ (gkN ky sm (-1001) s k = gkN ky sm (-2000) s k ∧ (-1000 : Int32) ≤ gkN ky sm (-2000) s k)
  | 0, _ => Or.inl ⟨rfl, rfl⟩
  | k + 1, hk1 => by
    have ih := gk_rel (sm := sm) hk k (by omega)
    have hb := hk (s + k) (by omega)
    simp only [gkN]
    by_cases c : sm (s + k) = true
    · rcases ih with ⟨i1, i2⟩ | ⟨i1, i2⟩
      · rw [i1, i2, if_pos ⟨c, Int32.lt_of_lt_of_le (by decide) hb⟩, if_pos ⟨c, Int32.lt_of_lt_of_le (by decide) hb⟩]
        exact Or.inr ⟨rfl, hb⟩
      · rw [i1]
        refine Or.inr ⟨rfl, ?_⟩
        split
        · exact hb
        · exact i2
    · rw [if_neg (fun q => c q.1), if_neg (fun q => c q.1)]
      exact ih
theorem ejG {α : Type} {A : α} {B : α → Prop} (P : α → Prop) (h : P A) (hb : ∀ J, P J → B J) : em_join A B := hb A h
theorem lpA' {N s0 : Nat} {a0 : Int32} {E : Int32 → Int32 → Prop} {B : (Int32 → Int32 → Prop) → (Int32 → Int32 → Nat) → Int32 → Int32 → Prop} (hN : N < 2 ^ 31) (hs : s0 ≤ N) (P : Nat → Int32 → Prop) (h0 : P s0 a0) (hx : ∀ a, P N a → E a (nI N))
    (hb : ∀ I mu k a, k < N → s0 ≤ k → P k a → (∀ a', P (k + 1) a' → I a' (nI (k + 1)) ∧ mu a' (nI (k + 1)) < mu a (nI k)) → B I mu a (nI k)) :
    ∃ (I : Int32 → Int32 → Prop) (mu : Int32 → Int32 → Nat), I a0 (nI s0) ∧ ∀ x2 x3, I x2 x3 → (nI N ≤ x3 → E x2 x3) ∧ (¬ nI N ≤ x3 → B I mu x2 x3) := by
  refine ⟨fun a x => ∃ k, s0 ≤ k ∧ k ≤ N ∧ x = nI k ∧ P k a, fun _ x => N - x.toNatClampNeg, ⟨s0, Nat.le_refl _, hs, rfl, h0⟩, ?_⟩
  rintro a _ ⟨k, h1, h2, rfl, hp⟩
  refine ⟨fun h => ?_, fun h => ?_⟩
  · rw [nI_leI hN (by omega)] at h
    have e : k = N := by omega
    subst e
    exact hx a hp
  · rw [nI_leI hN (by omega)] at h
    refine hb _ _ k a (by omega) h1 hp (fun a' ha => ?_)
    refine ⟨⟨k + 1, by omega, by omega, rfl, ha⟩, ?_⟩
    show N - (nI (k + 1)).toNatClampNeg < N - (nI k).toNatClampNeg
    rw [nI_clamp (by omega), nI_clamp (by omega)]
    omega
theorem lpM' {N s0 : Nat} {M0 : em_M} {E : Int32 → em_M → Prop} {B : (Int32 → em_M → Prop) → (Int32 → em_M → Nat) → Int32 → em_M → Prop} (hN : N < 2 ^ 31) (hs : s0 ≤ N) (P : Nat → em_M → Prop) (h0 : P s0 M0) (hx : ∀ a, P N a → E (nI N) a)
    (hb : ∀ I mu k a, k < N → s0 ≤ k → P k a → (∀ a', P (k + 1) a' → I (nI (k + 1)) a' ∧ mu (nI (k + 1)) a' < mu (nI k) a) → B I mu (nI k) a) :
    ∃ (I : Int32 → em_M → Prop) (mu : Int32 → em_M → Nat), I (nI s0) M0 ∧ ∀ x3 M, I x3 M → (nI N ≤ x3 → E x3 M) ∧ (¬ nI N ≤ x3 → B I mu x3 M) := by
  refine ⟨fun x a => ∃ k, s0 ≤ k ∧ k ≤ N ∧ x = nI k ∧ P k a, fun x _ => N - x.toNatClampNeg, ⟨s0, Nat.le_refl _, hs, rfl, h0⟩, ?_⟩
  rintro _ a ⟨k, h1, h2, rfl, hp⟩
  refine ⟨fun h => ?_, fun h => ?_⟩
  · rw [nI_leI hN (by omega)] at h
    have e : k = N := by omega
    subst e
    exact hx a hp
  · rw [nI_leI hN (by omega)] at h
    refine hb _ _ k a (by omega) h1 hp (fun a' ha => ?_)
    refine ⟨⟨k + 1, by omega, by omega, rfl, ha⟩, ?_⟩
    show N - (nI (k + 1)).toNatClampNeg < N - (nI k).toNatClampNeg
    rw [nI_clamp (by omega), nI_clamp (by omega)]
    omega
/-- the reference, while it goes by keys -/
def kM (M0 : em_M) (s : ((Nat → RR) × Nat) × Nat × Nat) (M : em_M) : Prop := (∀ c, c ≠ 52 → c ≠ 57 → c ≠ 58 → c ≠ 59 → c ≠ 60 → M c = M0 c) ∧ hM s.1.1 s.1.2 M ∧ (∀ j, j ≠ 0 → j ≠ 8 → j ≠ 9 → j ≠ 10 → j ≠ 23 → j ≠ 24 → M 52 j = M0 52 j) ∧ M 52 9 = nI 1 ∧ M 52 10 = nI 1 ∧ M 52 23 = nI s.2.1 ∧ M 52 24 = nI s.2.2
theorem kM_S {sc : Nat → Nat → Nat} {M0 M : em_M} {s : ((Nat → RR) × Nat) × Nat × Nat} (h : kM M0 s M) (hS : mS sc M0) : mS sc M := mS_c hS (h.1 53 (by omega) (by omega) (by omega) (by omega) (by omega))
theorem kM_Q {so we : Nat → Nat} {M0 M : em_M} {s : ((Nat → RR) × Nat) × Nat × Nat} (h : kM M0 s M) (hS : mQ so we M0) : mQ so we M := mQ_c hS (h.1 55 (by omega) (by omega) (by omega) (by omega) (by omega)) (h.1 56 (by omega) (by omega) (by omega) (by omega) (by omega))
theorem m_keys {post : Int32 → em_M → Prop} {sc : Nat → Nat → Nat} {so we : Nat → Nat} {ky : Nat → Int32} {M0 : em_M} {w : Nat} (hS : mS sc M0) (hQ : mQ so we M0) (hk : ∀ o, o < 512 → M0 54 o = ky o) (hk1 : ∀ o, o < 512 → (-1000 : Int32) ≤ ky o) (hw0 : M0 52 5 = nI w) (hw1 : 1 ≤ w) (hw : w ≤ 20) (hp : ∀ M', kM M0 (kst sc so we ky w 32) M' → post (nI (kst sc so we ky w 32).1.2) M') : wp_MD_keys post M0 := by
  simp only [wp_MD_keys, forall_eq]
  refine lpM (by omega) (by omega) (fun i M => kM M0 (kst sc so we ky w i) M) ?_ (fun M q => by rw [q.2.1.1]; exact hp M q) ?_
  · refine ⟨fun c c1 c2 c3 c4 c5 => by simp (disch := omega) only [eu_ne], ⟨by simp (disch := omega) only [eu_j, eu_eq]; rfl, fun j hj => absurd hj (Nat.not_lt_zero _)⟩, fun j j0 j1 j2 j3 j4 j5 => by simp (disch := omega) only [eu_j], (by simp (disch := omega) only [eu_ne, eu_j, eu_eq]), (by simp (disch := omega) only [eu_ne, eu_j, eu_eq]), by simp (disch := omega) only [eu_j, eu_eq]; rfl, by simp (disch := omega) only [eu_eq]; rfl⟩
  intro I mu i M i1 _ q st
  have hz := kst_z (sc := sc) (so := so) (we := we) (ky := ky) (w := w) i
  have hle := kst_le (sc := sc) (so := so) (we := we) (ky := ky) (w := w) i
  have k54 : ∀ o, o < 512 → M 54 o = ky o := fun o ho => by rw [q.1 54 (by omega) (by omega) (by omega) (by omega) (by omega)]; exact hk o ho
  simp only [pk_mul, nI_add] at st ⊢
  refine lpA' (by omega) (by omega) (fun k a => a = gkN ky (somewN sc) (-2000) (16 * i) (k - 16 * i)) (by rw [Nat.sub_self]; rfl) ?_ ?_
  · rintro _ rfl
    rw [show 16 * i + 16 - 16 * i = 16 by omega]
    have rel := gk_rel (ky := ky) (sm := somewN sc) (s := 16 * i) (fun o ho => hk1 o (by omega)) 16 (Nat.le_refl _)
    refine ejG (fun J => ∀ x M', kM M0 (kst sc so we ky w (i + 1)) M' → J x M') (fun x M' h => st M' h) (fun J hJ => ⟨fun c => hJ _ _ ?_, fun c => ?_⟩)
    · rcases rel with ⟨r1, r2⟩ | ⟨r1, r2⟩
      · simp only [kst]; rw [if_pos r1]; exact q
      · exact absurd (Int32.le_trans r2 c) (by decide)
    have rel' : gkN ky (somewN sc) (-1001) (16 * i) 16 = gkN ky (somewN sc) (-2000) (16 * i) 16 ∧ gkN ky (somewN sc) (-1001) (16 * i) 16 ≠ -1001 := by
      rcases rel with ⟨r1, r2⟩ | ⟨r1, r2⟩
      · exact absurd (by rw [r2]; decide) c
      · refine ⟨r1, fun e => ?_⟩
        rw [← r1, e] at r2
        exact absurd r2 (by decide)
    obtain ⟨r1, r2⟩ := rel'
    rw [← r1]
    generalize hg : gkN ky (somewN sc) (-1001) (16 * i) 16 = g at r2 ⊢
    have e23 : M 52 23 + nI 1 = nI ((kst sc so we ky w i).2.1 + 1) := by rw [q.2.2.2.2.2.1, nI_add]
    rw [e23]
    have q' : kM M0 ((kst sc so we ky w i).1, (kst sc so we ky w i).2.1 + 1, (kst sc so we ky w i).2.2) (em_up M 52 23 (nI ((kst sc so we ky w i).2.1 + 1))) := by
      obtain ⟨H1, ⟨H2, H3⟩, H4, H5, H6, H7, H8⟩ := q
      refine ⟨fun c c1 c2 c3 c4 c5 => by rw [eu_ne c1]; exact H1 c c1 c2 c3 c4 c5, ⟨by rw [eu_j (by omega)]; exact H2, fun j hj => ?_⟩, fun j j0 j1 j2 j3 j4 j5 => by rw [eu_j j4]; exact H4 j j0 j1 j2 j3 j4 j5, by rw [eu_j (by omega)]; exact H5, by rw [eu_j (by omega)]; exact H6, by rw [eu_eq], by rw [eu_j (by omega)]; exact H8⟩
      have e : rM (em_up M 52 23 (nI ((kst sc so we ky w i).2.1 + 1))) j = rM M j := by
        unfold rM
        simp (disch := omega) only [eu_ne]
      rw [e]; exact H3 j hj
    generalize em_up M 52 23 (nI ((kst sc so we ky w i).2.1 + 1)) = M1 at q' ⊢
    have w5 : M1 52 5 = nI w := by rw [q'.2.2.1 5 (by omega) (by omega) (by omega) (by omega) (by omega) (by omega)]; exact hw0
    have w8 : M1 52 8 = nI (kst sc so we ky w i).1.2 := q'.2.1.1
    refine ejG (fun J => ¬ ((kst sc so we ky w i).1.2 = w ∧ g ≤ ((kst sc so we ky w i).1.1 (w - 1)).2.1) → J) (fun hc => ?_) (fun J2 hJ2 => ?_)
    · have stp : kst sc so we ky w (i + 1) = (zgo sc so we ky w (16 * i) (kst sc so we ky w i).1 16, (kst sc so we ky w i).2.1 + 1, (kst sc so we ky w i).2.2) := by
        simp only [kst, hg]; rw [if_neg r2, if_neg hc]
      refine lpM' (by omega) (by omega) (fun k M' => kM M0 (zgo sc so we ky w (16 * i) (kst sc so we ky w i).1 (k - 16 * i), (kst sc so we ky w i).2.1 + 1, (kst sc so we ky w i).2.2) M') (by rw [Nat.sub_self]; exact q') (fun M' z => hJ _ _ (by rw [stp]; rw [show 16 * i + 16 - 16 * i = 16 by omega] at z; exact z)) ?_
      intro I2 mu2 k M' k1 k2 z st2
      have ek : k + 1 - 16 * i = (k - 16 * i) + 1 := by omega
      have es : 16 * i + (k - 16 * i) = k := by omega
      simp only [nI_add]
      refine m_isFit (kM_S z hS) (kM_Q z hQ) (by omega) ?_
      refine ejG (fun J => ∀ M', kM M0 (zgo sc so we ky w (16 * i) (kst sc so we ky w i).1 (k + 1 - 16 * i), (kst sc so we ky w i).2.1 + 1, (kst sc so we ky w i).2.2) M' → J M') (fun M' h => st2 M' h) (fun J3 hJ3 => ?_)
      simp (disch := omega) only [bI_0, n_in, nI_clamp]
      refine ⟨fun c => hJ3 _ ?_, fun c => ⟨by omega, ?_⟩⟩
      · rw [ek]; simp only [zgo, es]
        rw [if_neg (by rw [c]; decide)]
        exact z
      · have e54 : M' 54 k = ky k := by rw [z.1 54 (by omega) (by omega) (by omega) (by omega) (by omega)]; exact hk k (by omega)
        rw [e54]
        refine m_hold (kM_S z hS) (kM_Q z hQ) e54 (by omega) z.2.1 (w := w) (by rw [z.2.2.1 5 (by omega) (by omega) (by omega) (by omega) (by omega) (by omega)]; exact hw0) hw1 hw (zgo_le hle _) (fun M2 s1 s2 s3 => hJ3 _ ?_)
        rw [ek]; simp only [zgo, es]
        rw [if_pos (by simpa using c)]
        refine ⟨fun c c1 c2 c3 c4 c5 => by rw [s1 c c1 c2 c3 c4 c5]; exact z.1 c c1 c2 c3 c4 c5, s3, fun j j0 j1 j2 j3 j4 j5 => by rw [s2 j j1]; exact z.2.2.1 j j0 j1 j2 j3 j4 j5, ?_, ?_, ?_, ?_⟩
        · rw [s2 9 (by omega)]; exact z.2.2.2.1
        · rw [s2 10 (by omega)]; exact z.2.2.2.2.1
        · rw [s2 23 (by omega)]; exact z.2.2.2.2.2.1
        · rw [s2 24 (by omega)]; exact z.2.2.2.2.2.2
    · rw [w8, w5]
      simp (disch := omega) only [nI_eq]
      refine ⟨fun c => hJ2 (fun h => c h.1), fun c => ?_⟩
      rw [pk_sub (by omega)]
      simp (disch := omega) only [n_in, nI_clamp]
      have er : M1 58 (w - 1) = ((kst sc so we ky w i).1.1 (w - 1)).2.1 := by
        have := q'.2.1.2 (w - 1) (by show w - 1 < (kst sc so we ky w i).1.2; omega)
        simp only at this
        rw [← this]; rfl
      rw [er]
      refine ⟨by omega, fun d => hJ2 (fun h => absurd d (Int32.not_lt.mpr h.2)), fun d => hJ _ _ ?_⟩
      have stp : kst sc so we ky w (i + 1) = ((kst sc so we ky w i).1, (kst sc so we ky w i).2.1 + 1, (kst sc so we ky w i).2.2 + 1) := by
        simp only [kst, hg]; rw [if_neg r2, if_pos ⟨c, Int32.not_lt.mp d⟩]
      rw [stp]
      obtain ⟨H1, ⟨H2, H3⟩, H4, H5, H6, H7, H8⟩ := q'
      simp only at H8
      rw [H8, nI_add]
      refine ⟨fun c c1 c2 c3 c4 c5 => by rw [eu_ne c1]; exact H1 c c1 c2 c3 c4 c5, ⟨by rw [eu_j (by omega)]; exact H2, fun j hj => ?_⟩, fun j j0 j1 j2 j3 j4 j5 => by rw [eu_j j5]; exact H4 j j0 j1 j2 j3 j4 j5, by rw [eu_j (by omega)]; exact H5, by rw [eu_j (by omega)]; exact H6, by rw [eu_j (by omega)]; exact H7, by rw [eu_eq]⟩
      have e : rM (em_up M1 52 24 (nI ((kst sc so we ky w i).2.2 + 1))) j = rM M1 j := by
        unfold rM
        simp (disch := omega) only [eu_ne]
      rw [e]; exact H3 j hj
  · rintro I2 mu2 k _ k1 k2 rfl st2
    have ek : k + 1 - 16 * i = (k - 16 * i) + 1 := by omega
    have es : 16 * i + (k - 16 * i) = k := by omega
    refine m_isSomewhere (kM_S q hS) (by omega) ?_
    simp (disch := omega) only [em_join, bI_0, n_in, nI_clamp, k54 k (by omega), nI_add]
    refine ⟨fun c => st2 _ ?_, fun c => ⟨by omega, fun d => st2 _ ?_, fun d => st2 _ ?_⟩⟩
    · rw [ek]; simp only [gkN, es]
      rw [if_neg (fun h => by rw [c] at h; exact absurd h.1 (by decide))]
    · rw [ek]; simp only [gkN, es]
      rw [if_neg (fun h => absurd h.2 (Int32.not_lt.mpr d))]
    · rw [ek]; simp only [gkN, es]
      rw [if_pos ⟨by simpa using c, Int32.not_le.mp d⟩]
theorem op_keys {M : em_M} {post : Int32 → Int32 → em_M → Prop} (H : JJ M) (hp : ∀ r M2, JJ M2 → post r r M2) : wp_BE_keys (fun r M1 => wp_MD_keys (fun r2 M2 => post r r2 M2) M1) M := by
  obtain ⟨sc, so, we, ky, w, h, a1, a2, a3, a4, a5, a6, a7, a8, a9⟩ := H
  unfold wp_BE_keys
  refine q_KS_run a1 a3 (fun o ho => (a5 o ho).1) a6.1 a6.2.2.1 a6.2.2.2 (fun M' hC => ?_)
  simp only [forall_eq]
  obtain ⟨b1, ⟨b2, b3⟩, b4, b5, b6⟩ := hC
  have f52 : ∀ c, 52 ≤ c → em_up (em_up M' 0 5 (nI 1)) 0 6 (nI 1) c = M c := fun c hc => by rw [eu_ne (by omega), eu_ne (by omega)]; exact b1 c (by omega) (by omega) (by omega) (by omega) (by omega) (by omega)
  refine m_keys (w := w) (ky := ky) (mS_c a2 (f52 53 (by omega))) (mQ_c a4 (f52 55 (by omega)) (f52 56 (by omega))) (fun o ho => by rw [f52 54 (by omega)]; exact (a5 o ho).2.1) (fun o ho => (a5 o ho).2.2.1) (by rw [f52 52 (by omega)]; exact a6.2.1) a6.2.2.1 a6.2.2.2 (fun M2 hM => ?_)
  have e4 : em_up (em_up M' 0 5 (nI 1)) 0 6 (nI 1) 43 4 = nI (kst sc so we ky w 32).1.2 := by
    rw [eu_ne (by omega), eu_ne (by omega)]; exact b2
  rw [e4]
  obtain ⟨m1, ⟨m2, m3⟩, m4, m5, m6, m7, m8⟩ := hM
  have fl : ∀ c, c ≠ 0 → c < 52 → M2 c = M' c := fun c c0 c1 => by rw [m1 c (by omega) (by omega) (by omega) (by omega) (by omega), eu_ne c0, eu_ne c0]
  have fm : ∀ c, c ≠ 0 → c ≠ 43 → c ≠ 44 → c ≠ 45 → c ≠ 46 → c ≠ 47 → c ≠ 51 → c < 52 → M2 c = M c := fun c c0 c1 c2 c3 c4 c5 c6 c7 => by rw [fl c c0 c7]; exact b1 c c1 c2 c3 c4 c5 c6
  have fh : ∀ c, 53 ≤ c → c < 57 → M2 c = M c := fun c c0 c1 => by rw [m1 c (by omega) (by omega) (by omega) (by omega) (by omega)]; exact f52 c (by omega)
  have f2 : ∀ j, j ≠ 0 → j ≠ 8 → j ≠ 9 → j ≠ 10 → j ≠ 23 → j ≠ 24 → M2 52 j = M 52 j := fun j j0 j1 j2 j3 j4 j5 => by rw [m4 j j0 j1 j2 j3 j4 j5, f52 52 (by omega)]
  have z0 : M2 0 = em_up (em_up M' 0 5 (nI 1)) 0 6 (nI 1) 0 := m1 0 (by omega) (by omega) (by omega) (by omega) (by omega)
  refine hp _ _ ⟨sc, so, we, ky, w, (kst sc so we ky w 32).1.2, cS_c a1 (fun k _ _ => fm k (by omega) (by omega) (by omega) (by omega) (by omega) (by omega) (by omega) (by omega)), mS_c a2 (fh 53 (by omega) (by omega)), cQ_c a3 (fm 41 (by omega) (by omega) (by omega) (by omega) (by omega) (by omega) (by omega) (by omega)) (fm 42 (by omega) (by omega) (by omega) (by omega) (by omega) (by omega) (by omega) (by omega)), mQ_c a4 (fh 55 (by omega) (by omega)) (fh 56 (by omega) (by omega)), jK_c a5 (fm 3 (by omega) (by omega) (by omega) (by omega) (by omega) (by omega) (by omega) (by omega)) (fh 54 (by omega) (by omega)), jW_c a6 (by rw [fm 40 (by omega) (by omega) (by omega) (by omega) (by omega) (by omega) (by omega) (by omega)]) (f2 5 (by omega) (by omega) (by omega) (by omega) (by omega) (by omega)), jP_c a7 (by rw [fm 40 (by omega) (by omega) (by omega) (by omega) (by omega) (by omega) (by omega) (by omega)]) (by rw [fm 40 (by omega) (by omega) (by omega) (by omega) (by omega) (by omega) (by omega) (by omega)]) (by rw [fm 40 (by omega) (by omega) (by omega) (by omega) (by omega) (by omega) (by omega) (by omega)]) (f2 6 (by omega) (by omega) (by omega) (by omega) (by omega) (by omega)) (f2 7 (by omega) (by omega) (by omega) (by omega) (by omega) (by omega)), ⟨?_, m2, ?_, fun j hj => ?_, ?_, ?_, ?_, ?_⟩, ?_⟩
  · rw [fl 43 (by omega) (by omega)]; exact b2
  · have := kst_le (sc := sc) (so := so) (we := we) (ky := ky) (w := w) 32
    have := a6.2.2.2
    omega
  · have er : rC M2 j = rM M2 j := by
      have e1 : rC M2 j = rC M' j := by
        unfold rC
        rw [fl 44 (by omega) (by omega), fl 45 (by omega) (by omega), fl 46 (by omega) (by omega), fl 47 (by omega) (by omega)]
      rw [e1, b3 j hj, m3 j hj]
    unfold rC rM at er
    simpa only [Prod.mk.injEq] using er
  · rw [m6, z0, eu_j (by omega), eu_eq]
  · rw [m5, z0, eu_eq]
  · rw [z0, eu_j (by omega), eu_eq]; exact Or.inr rfl
  · rw [z0, eu_eq]; exact Or.inr rfl
  · unfold jT
    rw [fm 48 (by omega) (by omega) (by omega) (by omega) (by omega) (by omega) (by omega) (by omega), fl 51 (by omega) (by omega), b5, b6, m7, m8, f2 16 (by omega) (by omega) (by omega) (by omega) (by omega) (by omega), f2 17 (by omega) (by omega) (by omega) (by omega) (by omega) (by omega), f2 18 (by omega) (by omega) (by omega) (by omega) (by omega) (by omega), f2 19 (by omega) (by omega) (by omega) (by omega) (by omega) (by omega), f2 20 (by omega) (by omega) (by omega) (by omega) (by omega) (by omega), f2 21 (by omega) (by omega) (by omega) (by omega) (by omega) (by omega), f2 22 (by omega) (by omega) (by omega) (by omega) (by omega) (by omega)]
    obtain ⟨t1, t2, t3, t4, t5, t6, t7, t8, t9⟩ := a9
    exact ⟨t1, t2, t3, t4, t5, t6, t7, rfl, rfl⟩
