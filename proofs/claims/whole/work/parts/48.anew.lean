/-! ANEW -/
def upR (b : Bool) (d : Int32) (r : RR) : RR := (r.1, r.2.1 + d * (if b then r.2.2.1 else r.2.2.2), r.2.2.1, r.2.2.2)
def upT (b : Bool) (d : Int32) (m : Nat) (T : Nat → RR) : Nat → RR := fun j => if j < m then upR b d (T j) else T j
def riseT (T : Nat → RR) (i : Nat) : Nat → RR := fun j => if j ≤ i then insR T (T i) (posR T (T i) i) j else T j
def ris (T : Nat → RR) : Nat → Nat → RR
  | 0 => T
  | k + 1 => riseT (ris T k) k
theorem insR_c {T T' : Nat → RR} {e : RR} {p j n : Nat} (h : ∀ j, j < n → T j = T' j) (hj : j < n) : insR T e p j = insR T' e p j := by
  unfold insR
  by_cases a : j < p
  · rw [if_pos a, if_pos a]; exact h j hj
  · rw [if_neg a, if_neg a]
    by_cases b : j = p
    · rw [if_pos b, if_pos b]
    · rw [if_neg b, if_neg b]; exact h (j - 1) (by omega)
theorem riseT_c {T T' : Nat → RR} {i n : Nat} (h : ∀ j, j < n → T j = T' j) (hi : i < n) : ∀ j, j < n → riseT T i j = riseT T' i j := by
  intro j hj
  unfold riseT
  rw [h i hi, posR_c (fun j hj => h j (by omega))]
  by_cases a : j ≤ i
  · rw [if_pos a, if_pos a]; exact insR_c h hj
  · rw [if_neg a, if_neg a]; exact h j hj
theorem ris_1 (T : Nat → RR) : ris T 1 = T := by
  funext j
  show (if j ≤ 0 then insR T (T 0) 0 j else T j) = T j
  by_cases a : j ≤ 0
  · rw [if_pos a]; unfold insR
    rw [if_neg (by omega), if_pos (by omega), show j = 0 by omega]
  · rw [if_neg a]
theorem lpE {N s0 : Nat} {M0 : em_M} {E : em_M → Prop} {B : (Int32 → em_M → Prop) → (Int32 → em_M → Nat) → Int32 → em_M → Prop} (hs : N ≤ s0) (h0 : s0 < 2 ^ 31) (hx : E M0) :
    ∃ (I : Int32 → em_M → Prop) (mu : Int32 → em_M → Nat), I (nI s0) M0 ∧ ∀ x3 M, I x3 M → (nI N ≤ x3 → E M) ∧ (¬ nI N ≤ x3 → B I mu x3 M) := by
  refine ⟨fun x M => x = nI s0 ∧ M = M0, fun _ _ => 0, ⟨rfl, rfl⟩, ?_⟩
  rintro _ _ ⟨rfl, rfl⟩
  exact ⟨fun _ => hx, fun c => absurd ((nI_leI (by omega) h0).mpr hs) c⟩
theorem q_rescore {post : Int32 → em_M → Prop} {T : Nat → RR} {h v : Nat} {d y : Int32} {M : em_M} (hh : h ≤ 20) (hv : v ≤ 20) (h1 : M 43 4 = nI h) (h2 : ∀ j, j < h → rC M j = T j)
    (hp : ∀ M', (∀ c, c ≠ 44 → c ≠ 45 → c ≠ 46 → c ≠ 47 → M' c = M c) → (∀ j, j < h → rC M' j = ris (upT (decide (y ≠ 0)) d (min h v) T) (min h v) j) → post (nI (min h v)) M') : wp_RK_rescore post (nI v) d y M := by
  unfold wp_RK_rescore
  have em : (if M 43 4 < nI v then M 43 4 else nI v) = nI (min h v) := by
    rw [h1]
    simp (disch := omega) only [nI_ltI]
    split
    · rw [Nat.min_eq_left (by omega)]
    · rw [Nat.min_eq_right (by omega)]
  rw [em]
  simp only [forall_eq]
  generalize hm : min h v = m at hp
  generalize hb : decide (y ≠ 0) = b at hp
  refine lpM (by omega) (by omega) (fun k M' => (∀ c, c ≠ 45 → M' c = M c) ∧ ∀ j, j < h → rC M' j = upT b d k T j) ⟨fun _ _ => rfl, fun j hj => by unfold upT; rw [if_neg (by omega)]; exact h2 j hj⟩ ?_ ?_
  · rintro M1 ⟨s1, t1⟩
    by_cases c0 : m = 0
    · subst c0
      exact lpE (by omega) (by omega) (hp M1 (fun c _ c2 _ _ => s1 c c2) t1)
    · refine lpM (by omega) (by omega) (fun k M' => (∀ c, c ≠ 44 → c ≠ 45 → c ≠ 46 → c ≠ 47 → M' c = M c) ∧ ∀ j, j < h → rC M' j = ris (upT b d m T) k j) ⟨fun c _ c2 _ _ => s1 c c2, by rw [ris_1]; exact t1⟩ (fun M2 q => hp M2 q.1 q.2) ?_
      rintro I mu k M2 k1 k2 ⟨s2, t2⟩ st
      refine q_rise (by omega) (fun M3 s3 t3 => ?_)
      refine st M3 ⟨fun c c1 c2 c3 c4 => by rw [s3 c c1 c2 c3 c4]; exact s2 c c1 c2 c3 c4, fun j hj => ?_⟩
      rw [t3]
      exact riseT_c t2 (by omega) j hj
  · rintro I mu k M2 k1 k2 ⟨s2, t2⟩ st
    simp (disch := omega) only [n_in, nI_clamp]
    have row := t2 k (by omega)
    have ek : upT b d k T k = T k := by unfold upT; rw [if_neg (by omega)]
    rw [ek] at row
    have r5 : M2 45 k = (T k).2.1 := by rw [← row]; rfl
    have r6 : M2 46 k = (T k).2.2.1 := by rw [← row]; rfl
    have r7 : M2 47 k = (T k).2.2.2 := by rw [← row]; rfl
    have fin : ∀ z : Int32, z = (if b then (T k).2.2.1 else (T k).2.2.2) → I (nI k + nI 1) (em_up M2 45 k (M2 45 k + d * z)) ∧ mu (nI k + nI 1) (em_up M2 45 k (M2 45 k + d * z)) < mu (nI k) M2 := by
      intro z hz
      refine st _ ⟨fun c c1 => by rw [eu_ne c1]; exact s2 c c1, fun j hj => ?_⟩
      by_cases a : j = k
      · subst a
        have : rC (em_up M2 45 j (M2 45 j + d * z)) j = (M2 44 j, M2 45 j + d * z, M2 46 j, M2 47 j) := by
          unfold rC
          simp (disch := omega) only [eu_ne, eu_eq]
        rw [this, r5, r6, r7, hz]
        unfold upT
        rw [if_pos (show j < j + 1 by omega)]
        unfold upR
        rw [show M2 44 j = (T j).1 by rw [← row]; rfl]
      · have : rC (em_up M2 45 k (M2 45 k + d * z)) j = rC M2 j := by
          unfold rC
          simp (disch := omega) only [eu_ne, eu_j]
        rw [this, t2 j hj]
        unfold upT
        by_cases f : j < k
        · rw [if_pos f, if_pos (by omega)]
        · rw [if_neg f, if_neg (by omega)]
    refine ⟨by omega, ?_⟩
    simp only [em_join, forall_eq]
    refine ⟨fun c => fin _ ?_, fun c => fin _ ?_⟩
    · rw [r7, ← hb]; simp [c]
    · rw [r6, ← hb]; simp [c]
theorem m_anewT {post : Int32 → em_M → Prop} {T : Nat → RR} {h v : Nat} {d : Int32} {M : em_M} (hh : h ≤ 20) (hv : v ≤ 20) (h1 : M 52 8 = nI h) (h2 : ∀ j, j < h → rM M j = T j) (hi1 : nI 0 ≤ nI v) (hi2 : nI v ≤ nI 20) (hd1 : (-9 : Int32) ≤ d) (hd2 : d ≤ nI 9) (hany : ¬ M 52 10 = 0)
    (hp : ∀ M', (∀ c, c ≠ 52 → c ≠ 57 → c ≠ 58 → c ≠ 59 → c ≠ 60 → M' c = M c) → (∀ j, j ≠ 0 → M' 52 j = M 52 j) → (∀ j, j < h → rM M' j = ris (upT (decide (M 52 9 ≠ 0)) d (min h v) T) (min h v) j) → post (nI (min h v)) M') : wp_MD_anew post (nI v) d M := by
  simp only [wp_MD_anew, forall_eq]
  refine m_in (fun _ _ => ⟨fun c => absurd c nI_10, fun _ => m_in (fun _ _ => ⟨fun _ => ⟨fun _ => ?_, fun c => ?_⟩, fun c => absurd c nI_10⟩) (fun c => absurd ⟨hd1, hd2⟩ c)⟩) (fun c => absurd ⟨hi1, hi2⟩ c)
  · have e8 : em_up M 52 0 (nI 0) 52 8 = nI h := by rw [eu_j (by omega)]; exact h1
    have hr0 : ∀ j, j < h → rM (em_up M 52 0 (nI 0)) j = T j := by
      intro j hj
      rw [← h2 j hj]
      unfold rM
      simp (disch := omega) only [eu_ne]
    have hs0 : ∀ c, c ≠ 52 → em_up M 52 0 (nI 0) c = M c := fun c hc => eu_ne hc
    have hj0 : ∀ j, j ≠ 0 → em_up M 52 0 (nI 0) 52 j = M 52 j := fun j hj => eu_j hj
    generalize em_up M 52 0 (nI 0) = M1 at e8 hr0 hs0 hj0 ⊢
    generalize hm : min h v = m at hp
    generalize hb : decide (M 52 9 ≠ 0) = b at hp
    refine ejG (fun J => J (nI m)) ?_ (fun J hJ => ?_)
    · refine lpM (by omega) (by omega) (fun k M' => (∀ c, c ≠ 58 → M' c = M1 c) ∧ ∀ j, j < h → rM M' j = upT b d k T j) ⟨fun _ _ => rfl, fun j hj => by unfold upT; rw [if_neg (by omega)]; exact hr0 j hj⟩ ?_ ?_
      · rintro M2 ⟨s2, t2⟩
        by_cases c0 : m = 0
        · subst c0
          exact lpE (by omega) (by omega) (hp M2 (fun c c0 _ c2 _ _ => by rw [s2 c c2]; exact hs0 c c0) (fun j hj => by rw [s2 52 (by omega)]; exact hj0 j hj) t2)
        · refine lpM (by omega) (by omega) (fun k M' => (∀ c, c ≠ 57 → c ≠ 58 → c ≠ 59 → c ≠ 60 → M' c = M1 c) ∧ ∀ j, j < h → rM M' j = ris (upT b d m T) k j) ⟨fun c _ c2 _ _ => s2 c c2, by rw [ris_1]; exact t2⟩ (fun M2 q => hp M2 (fun c c0 c1 c2 c3 c4 => by rw [q.1 c c1 c2 c3 c4]; exact hs0 c c0) (fun j hj => by rw [q.1 52 (by omega) (by omega) (by omega) (by omega)]; exact hj0 j hj) q.2) ?_
          rintro I mu i M3 i1 i2 ⟨s3, t3⟩ st
          generalize hU : ris (upT b d m T) i = U at t3
          have hst : ∀ M', (∀ c, c ≠ 57 → c ≠ 58 → c ≠ 59 → c ≠ 60 → M' c = M1 c) → (∀ j, j < h → rM M' j = riseT U i j) → I (nI i + nI 1) M' ∧ mu (nI i + nI 1) M' < mu (nI i) M3 := by
            intro M' a1 a2
            refine st M' ⟨a1, ?_⟩
            show ∀ j, j < h → rM M' j = riseT (ris (upT b d m T) i) i j
            rw [hU]; exact a2
          refine m_move (by omega) (by omega) (fun M4 s4 t4 => ?_)
          refine ⟨fun x M5 => ∃ k, k ≤ i ∧ x = nI k ∧ (∀ c, c ≠ 57 → c ≠ 58 → c ≠ 59 → c ≠ 60 → M5 c = M1 c) ∧ rM M5 20 = U i ∧ (∀ j, j < k → rM M5 j = U j) ∧ (∀ j, k < j → j ≤ i → rM M5 j = U (j - 1)) ∧ (∀ j, i < j → j < h → rM M5 j = U j) ∧ posR U (U i) i = posR U (U i) k, fun x _ => x.toNatClampNeg, ⟨i, Nat.le_refl _, rfl, fun c c1 c2 c3 c4 => by rw [s4 c c1 c2 c3 c4]; exact s3 c c1 c2 c3 c4, ?_, fun j hj => ?_, fun j a b => absurd b (by omega), fun j a b => ?_, rfl⟩, ?_⟩
          · rw [t4, if_pos rfl]; exact t3 i (by omega)
          · rw [t4, if_neg (by omega)]; exact t3 j (by omega)
          · rw [t4, if_neg (by omega)]; exact t3 j b
          rintro _ M5 ⟨k, k1, rfl, k2, k3, k4, k5, k6, k7⟩
          refine ejG (fun J => posR U (U i) i = k → J) (fun hpos => ?_) (fun J24 hJ24 => ?_)
          · refine m_move (by omega) (by omega) (fun M6 s6 t6 => hst M6 (fun c c1 c2 c3 c4 => by rw [s6 c c1 c2 c3 c4]; exact k2 c c1 c2 c3 c4) (fun j hj => ?_))
            rw [t6]
            unfold riseT insR
            rw [hpos]
            by_cases a : j = k
            · rw [if_pos a, if_pos (by omega), if_neg (by omega), if_pos a]; exact k3
            · rw [if_neg a]
              by_cases c : j ≤ i
              · rw [if_pos c]
                by_cases f : j < k
                · rw [if_pos f]; exact k4 j f
                · rw [if_neg f, if_neg a]; exact k5 j (by omega) c
              · rw [if_neg c]; exact k6 j (by omega) hj
          simp (disch := omega) only [nz_le]
          refine ⟨fun c => hJ24 (by rw [k7, c]; rfl), fun c => ?_⟩
          obtain ⟨k', rfl⟩ : ∃ k', k = k' + 1 := ⟨k - 1, by omega⟩
          rw [pk_sub (by omega), show k' + 1 - 1 = k' by omega]
          have row := k4 k' (by omega)
          have n1 : M5 58 k' = (U k').2.1 := by rw [← row]; rfl
          have n2 : M5 57 k' = (U k').1 := by rw [← row]; rfl
          have n3 : M5 58 20 = (U i).2.1 := by rw [← k3]; rfl
          have n4 : M5 57 20 = (U i).1 := by rw [← k3]; rfl
          simp (disch := omega) only [n_in, nI_clamp, n1, n2, n3, n4]
          refine ⟨by omega, by omega, ?_⟩
          refine ejG (fun J => ahd (U i) (U k') = true → J) (fun ha => ?_) (fun J40 hJ40 => ?_)
          · refine m_move (by omega) (by omega) (fun M6 s6 t6 => ?_)
            rw [pk_m1]
            refine ⟨⟨k', by omega, rfl, fun c c1 c2 c3 c4 => by rw [s6 c c1 c2 c3 c4]; exact k2 c c1 c2 c3 c4, ?_, fun j hj => ?_, fun j j1 j2 => ?_, fun j j1 j2 => ?_, ?_⟩, ?_⟩
            · rw [t6, if_neg (by omega)]; exact k3
            · rw [t6, if_neg (by omega)]; exact k4 j (by omega)
            · rw [t6]
              by_cases a : j = k' + 1
              · rw [if_pos a, a]; exact row
              · rw [if_neg a]; exact k5 j (by omega) j2
            · rw [t6, if_neg (by omega)]; exact k6 j j1 j2
            · rw [k7]; simp only [posR, ha, if_true]
            · show (nI k').toNatClampNeg < k' + 1
              rw [nI_clamp (by omega)]; omega
          have stop : ahd (U i) (U k') = false → J24 := by
            intro hc
            refine hJ24 ?_
            rw [k7]; simp only [posR, hc]; rfl
          refine ⟨fun c => hJ40 (by simp [ahd, c]), fun c => ⟨fun d => stop ?_, fun d => ⟨fun f => stop ?_, fun f => hJ40 ?_⟩⟩⟩
          · have d' : ¬ (U i).2.1 = (U k').2.1 := fun q => d q.symm
            simp [ahd, c, d']
          · simp [ahd, c, d, Int32.not_lt.mpr f]
          · simp [ahd, d, Int32.not_le.mp f]
      · rintro I mu k M2 k1 k2 ⟨s2, t2⟩ st
        simp (disch := omega) only [n_in, nI_clamp]
        have row := t2 k (by omega)
        have ek : upT b d k T k = T k := by unfold upT; rw [if_neg (by omega)]
        rw [ek] at row
        have r5 : M2 58 k = (T k).2.1 := by rw [← row]; rfl
        have r6 : M2 59 k = (T k).2.2.1 := by rw [← row]; rfl
        have r7 : M2 60 k = (T k).2.2.2 := by rw [← row]; rfl
        have r9 : M2 52 9 = M 52 9 := by rw [s2 52 (by omega)]; exact hj0 9 (by omega)
        have fin : ∀ z : Int32, z = (if b then (T k).2.2.1 else (T k).2.2.2) → I (nI k + nI 1) (em_up M2 58 k (M2 58 k + d * z)) ∧ mu (nI k + nI 1) (em_up M2 58 k (M2 58 k + d * z)) < mu (nI k) M2 := by
          intro z hz
          refine st _ ⟨fun c c1 => by rw [eu_ne c1]; exact s2 c c1, fun j hj => ?_⟩
          by_cases a : j = k
          · subst a
            have : rM (em_up M2 58 j (M2 58 j + d * z)) j = (M2 57 j, M2 58 j + d * z, M2 59 j, M2 60 j) := by
              unfold rM
              simp (disch := omega) only [eu_ne, eu_eq]
            rw [this, r5, r6, r7, hz]
            unfold upT
            rw [if_pos (show j < j + 1 by omega)]
            unfold upR
            rw [show M2 57 j = (T j).1 by rw [← row]; rfl]
          · have : rM (em_up M2 58 k (M2 58 k + d * z)) j = rM M2 j := by
              unfold rM
              simp (disch := omega) only [eu_ne, eu_j]
            rw [this, t2 j hj]
            unfold upT
            by_cases f : j < k
            · rw [if_pos f, if_pos (by omega)]
            · rw [if_neg f, if_neg (by omega)]
        refine ⟨by omega, ?_⟩
        simp only [em_join, forall_eq, r9]
        refine ⟨fun c => fin _ ?_, fun c => fin _ ?_⟩
        · rw [r7, ← hb]; simp [c]
        · rw [r6, ← hb]; simp [c]
    · rw [e8]
      simp (disch := omega) only [nI_leI]
      refine ⟨fun c => ?_, fun c => ?_⟩
      · rw [show h = m by omega]; exact hJ
      · rw [show v = m by omega]; exact hJ
  · rw [eu_j (by omega)] at c
    exact absurd c hany
theorem op_anew {x y : Int32} {M : em_M} {post : Int32 → Int32 → em_M → Prop} (H : JJ M) (hp : ∀ r M2, JJ M2 → post r r M2) : wp_BE_anew (fun r M1 => wp_MD_anew (fun r2 M2 => post r r2 M2) x y M1) x y M := by
  unfold wp_BE_anew
  refine q_isWithin (fun a b => ⟨fun c => absurd c nI_10, fun _ => ?_⟩) (fun a => ⟨fun _ => ?_, fun c => absurd rfl c⟩)
  · refine q_isWithin (fun a' b' => ⟨fun _ => ⟨fun c => ?_, fun c => ?_⟩, fun c => absurd c nI_10⟩) (fun a' => ⟨fun c => absurd rfl c, fun _ => ?_⟩)
    · have e : em_up M 52 0 (nI 0) 52 10 = 0 := by
        obtain ⟨sc, so, we, ky, w, h, a1, a2, a3, a4, a5, a6, a7, a8, a9⟩ := H
        rw [eu_j (by omega), ← a8.2.2.2.2.1]; exact c
      simp only [forall_eq, wp_MD_anew]
      exact m_in (fun _ _ => ⟨fun c => absurd c nI_10, fun _ => m_in (fun _ _ => ⟨fun _ => ⟨fun c => absurd e c, fun _ => hp _ _ (JJ_thr H)⟩, fun c => absurd c nI_10⟩) (fun c => absurd ⟨a', b'⟩ c)⟩) (fun c => absurd ⟨a, b⟩ c)
    · obtain ⟨v, v1, v2, rfl⟩ := n_rng (by omega) a b (by omega)
      obtain ⟨sc, so, we, ky, w, h, a1, a2, a3, a4, a5, a6, a7, ⟨A1, A2, A3, A4, A5, A6, A7, A8⟩, a9⟩ := H
      refine q_rescore (T := rC M) A3 v2 A1 (fun j _ => rfl) (fun M1 s1 t1 => ?_)
      have f52 : ∀ c, 52 ≤ c → M1 c = M c := fun c hc => s1 c (by omega) (by omega) (by omega) (by omega)
      have hr : ∀ j, j < h → rM M1 j = rC M j := by
        intro j hj
        obtain ⟨z1, z2, z3, z4⟩ := A4 j hj
        unfold rM rC
        rw [f52 57 (by omega), f52 58 (by omega), f52 59 (by omega), f52 60 (by omega), z1, z2, z3, z4]
      refine m_anewT (T := rC M) A3 v2 (by rw [f52 52 (by omega)]; exact A2) hr a b a' b' (by rw [f52 52 (by omega), ← A5]; exact c) (fun M2 s2 r2 t2 => ?_)
      rw [f52 52 (by omega), ← A6] at t2
      have fl : ∀ c, c < 52 → M2 c = M1 c := fun c hc => s2 c (by omega) (by omega) (by omega) (by omega) (by omega)
      have fm : ∀ c, c < 52 → c ≠ 44 → c ≠ 45 → c ≠ 46 → c ≠ 47 → M2 c = M c := fun c hc c1 c2 c3 c4 => by rw [fl c hc]; exact s1 c c1 c2 c3 c4
      have fh : ∀ c, 53 ≤ c → c < 57 → M2 c = M c := fun c hc hd => by rw [s2 c (by omega) (by omega) (by omega) (by omega) (by omega)]; exact f52 c (by omega)
      have f2 : ∀ j, j ≠ 0 → M2 52 j = M 52 j := fun j hj => by rw [r2 j hj, f52 52 (by omega)]
      refine hp _ _ ⟨sc, so, we, ky, w, h, cS_c a1 (fun k _ _ => fm k (by omega) (by omega) (by omega) (by omega) (by omega)), mS_c a2 (fh 53 (by omega) (by omega)), cQ_c a3 (fm 41 (by omega) (by omega) (by omega) (by omega) (by omega)) (fm 42 (by omega) (by omega) (by omega) (by omega) (by omega)), mQ_c a4 (fh 55 (by omega) (by omega)) (fh 56 (by omega) (by omega)), jK_c a5 (fm 3 (by omega) (by omega) (by omega) (by omega) (by omega)) (fh 54 (by omega) (by omega)), jW_c a6 (by rw [fm 40 (by omega) (by omega) (by omega) (by omega) (by omega)]) (f2 5 (by omega)), jP_c a7 (by rw [fm 40 (by omega) (by omega) (by omega) (by omega) (by omega)]) (by rw [fm 40 (by omega) (by omega) (by omega) (by omega) (by omega)]) (by rw [fm 40 (by omega) (by omega) (by omega) (by omega) (by omega)]) (f2 6 (by omega)) (f2 7 (by omega)), ⟨?_, ?_, A3, fun j hj => ?_, ?_, ?_, ?_, ?_⟩, ?_⟩
      · rw [fm 43 (by omega) (by omega) (by omega) (by omega) (by omega)]; exact A1
      · rw [f2 8 (by omega)]; exact A2
      · have er : rC M2 j = rM M2 j := by
          have e1 : rC M2 j = rC M1 j := by
            unfold rC
            rw [fl 44 (by omega), fl 45 (by omega), fl 46 (by omega), fl 47 (by omega)]
          rw [e1, t1 j hj, t2 j hj]
        unfold rC rM at er
        simpa only [Prod.mk.injEq] using er
      · rw [fm 0 (by omega) (by omega) (by omega) (by omega) (by omega), f2 10 (by omega)]; exact A5
      · rw [fm 0 (by omega) (by omega) (by omega) (by omega) (by omega), f2 9 (by omega)]; exact A6
      · rw [fm 0 (by omega) (by omega) (by omega) (by omega) (by omega)]; exact A7
      · rw [fm 0 (by omega) (by omega) (by omega) (by omega) (by omega)]; exact A8
      · exact jT_c a9 (fm 48 (by omega) (by omega) (by omega) (by omega) (by omega)) (fm 51 (by omega) (by omega) (by omega) (by omega) (by omega)) (fun j hj => f2 j (by omega))
    · simp only [forall_eq, wp_MD_anew]
      exact m_in (fun _ _ => ⟨fun c => absurd c nI_10, fun _ => m_in (fun b c => absurd ⟨b, c⟩ a') (fun _ => ⟨fun c => absurd rfl c, fun _ => hp _ _ (JJ_thr H)⟩)⟩) (fun c => absurd ⟨a, b⟩ c)
  · simp only [forall_eq, wp_MD_anew]
    exact m_in (fun b c => absurd ⟨b, c⟩ a) (fun _ => ⟨fun _ => hp _ _ (JJ_thr H), fun c => absurd rfl c⟩)
