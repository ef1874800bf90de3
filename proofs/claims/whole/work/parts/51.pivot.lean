/-! LINES: pivot, end, floor, blocks -/
theorem smN_mono {g : Nat → Nat} {k : Nat} : ∀ {n : Nat}, k ≤ n → smN g k ≤ smN g n
  | 0, h => by rw [show k = 0 by omega]; exact Nat.le_refl _
  | n + 1, h => by
    by_cases e : k = n + 1
    · rw [e]; exact Nat.le_refl _
    · have := smN_mono (g := g) (show k ≤ n by omega)
      simp only [smN]
      omega
theorem smN_split {S B : Nat → Nat} {o : Nat} : ∀ n, smN (fun l => if S l ≤ o then B l else 0) n = smN (fun l => if S l < o then B l else 0) n + smN (fun l => if S l = o then B l else 0) n
  | 0 => rfl
  | n + 1 => by
    have ih := smN_split (S := S) (B := B) (o := o) n
    simp only [smN]
    rw [ih]
    rcases Nat.lt_trichotomy (S n) o with c | c | c
    · rw [if_pos (show S n ≤ o by omega), if_pos c, if_neg (show ¬ S n = o by omega)]; omega
    · rw [if_pos (show S n ≤ o by omega), if_neg (show ¬ S n < o by omega), if_pos c]; omega
    · rw [if_neg (show ¬ S n ≤ o by omega), if_neg (show ¬ S n < o by omega), if_neg (show ¬ S n = o by omega)]; omega
def pre (S B : Nat → Nat) (o k : Nat) : Nat := smN (fun l => if S l < o then B l else 0) 12 + smN (fun l => if S l = o then B l else 0) k
theorem pre_12 {S B : Nat → Nat} {o : Nat} : pre S B o 12 = bdN S B o := (smN_split 12).symm
theorem pre_next {S B : Nat → Nat} {o : Nat} : smN (fun l => if S l < o + 1 then B l else 0) 12 = bdN S B o := smN_c (fun l _ => by
  by_cases c : S l ≤ o
  · rw [if_pos c, if_pos (by omega)]
  · rw [if_neg c, if_neg (by omega)])
theorem bdN_le {S B : Nat → Nat} {o : Nat} (hB : ∀ l, l < 12 → B l ≤ 900) : bdN S B o ≤ 10800 := by
  have := smN_le (g := fun l => if S l ≤ o then B l else 0) (v := 900) (n := 12) (fun l hl => by
    show (if S l ≤ o then B l else 0) ≤ 900
    have := hB l hl
    split <;> omega)
  exact this
theorem pre_le {S B : Nat → Nat} {o k : Nat} (hk : k ≤ 12) : pre S B o k ≤ bdN S B o := by
  rw [← pre_12]
  unfold pre
  have := smN_mono (g := fun l => if S l = o then B l else 0) hk
  omega
theorem m_pivot {post : Int32 → Prop} {sc : Nat → Nat → Nat} {so we S : Nat → Nat} {M : em_M} {f : Int32} (hS : mS sc M) (hq : mQ so we M) (hs : lS sc so S) (hc : mL so S M) (hp : post (nI (pvN S (Bd sc we) f 12))) : wp_MD_pivot post f M := by
  have hB : ∀ l, l < 12 → Bd sc we l ≤ 900 := fun l hl => Bd_le (hq l hl).2.2.2.2 (fun o ho => (hS l hl o ho).2)
  have hpp : ∀ r, isPv S (Bd sc we) f 12 r → post (nI r) := fun r h => by rw [isPv_un h (pv_is 12)]; exact hp
  clear hp
  unfold wp_MD_pivot
  simp only [forall_eq]
  refine lpA (by omega) (by omega) (fun o a => a = nI (pre S (Bd sc we) o 0) ∧ ∀ l, l < 12 → S l < o → nI (bdN S (Bd sc we) (S l)) ≤ f) ⟨?_, fun l _ h => absurd h (Nat.not_lt_zero _)⟩ (fun a e => hpp 512 ⟨Or.inl rfl, e.2⟩) ?_
  · have : pre S (Bd sc we) 0 0 = 0 := by
      unfold pre
      have := smN_le (g := fun l => if S l < 0 then Bd sc we l else 0) (v := 0) (n := 12) (fun l hl => by
        show (if S l < 0 then Bd sc we l else 0) ≤ 0
        rw [if_neg (Nat.not_lt_zero _)]; exact Nat.le_refl _)
      simp only [smN] at this ⊢
      omega
    rw [this]
  rintro I mu o _ ho _ ⟨rfl, ht⟩ st
  refine lpA (by omega) (by omega) (fun k a => a = nI (pre S (Bd sc we) o k) ∧ ((∃ l, l < k ∧ S l = o) → nI (pre S (Bd sc we) o k) ≤ f)) ⟨rfl, fun ⟨l, h, _⟩ => absurd h (Nat.not_lt_zero _)⟩ ?_ ?_
  · rintro _ ⟨rfl, ha⟩
    refine st _ ⟨?_, fun l hl h => ?_⟩
    · rw [pre_12]
      show nI (bdN S (Bd sc we) o) = nI (smN (fun l => if S l < o + 1 then Bd sc we l else 0) 12 + 0)
      rw [pre_next]; rfl
    · by_cases e : S l = o
      · rw [e, ← pre_12]; exact ha ⟨l, hl, e⟩
      · exact ht l hl (by omega)
  rintro I2 mu2 k _ hk _ ⟨rfl, ha⟩ st2
  have hle := (hs k hk).1
  refine m_isLine hq hs hc hk ?_
  have same : ¬ S k = o → I2 (nI (pre S (Bd sc we) o k)) (nI k + nI 1) ∧ mu2 (nI (pre S (Bd sc we) o k)) (nI k + nI 1) < mu2 (nI (pre S (Bd sc we) o k)) (nI k) := by
    intro c
    have e : pre S (Bd sc we) o (k + 1) = pre S (Bd sc we) o k := by
      unfold pre
      simp only [smN]
      rw [if_neg c]; rfl
    refine st2 _ ⟨by rw [e], fun ⟨l, l1, l2⟩ => ?_⟩
    rw [e]
    refine ha ⟨l, ?_, l2⟩
    have : l ≠ k := fun q => c (q ▸ l2)
    omega
  simp (disch := omega) only [em_join, bI_0, n_in, nI_clamp]
  refine ⟨fun c => same ?_, fun c => ⟨hk, ?_⟩⟩
  · have : ¬ S k < 512 := by simpa using c
    omega
  have c' : S k < 512 := by simpa using c
  rw [hc k hk (lS_a hs hk c')]
  simp (disch := omega) only [nI_eq]
  refine ⟨fun d => same d, fun d => m_topOf hS hk (by omega) (by omega) ?_⟩
  rw [(hq k hk).2.2.1, pk_mul, nI_add]
  have e : pre S (Bd sc we) o k + we k * tpN (sc k) 0 120 512 = pre S (Bd sc we) o (k + 1) := by
    unfold pre
    simp only [smN]
    rw [if_pos d]
    show _ + Bd sc we k = _
    omega
  rw [e]
  refine ⟨fun g => st2 _ ⟨rfl, fun _ => g⟩, fun g => hpp o ⟨Or.inr ⟨by omega, ⟨k, hk, d⟩, fun q => g ?_⟩, ht⟩⟩
  have h1 := pre_le (S := S) (B := Bd sc we) (o := o) (k := k + 1) (by omega)
  have h2 := bdN_le (S := S) (o := o) hB
  exact Int32.le_trans ((nI_leI (by omega) (by omega)).mpr h1) q
def atE (so S : Nat → Nat) : Bool := !(anyN (fun l => decide (S l < 512)) 12) || anyN (fun l => decide (so l = 2) && decide (¬ S l < 512)) 12
theorem nO_512 {v : Nat} {x : Int32} (h : nO v x) (hv : v ≤ 512) : x = nI 512 ↔ v = 512 := by
  rcases h with ⟨rfl, e⟩ | rfl
  · exact ⟨fun q => absurd q (by decide), fun q => by omega⟩
  · exact nI_eq (by omega) (by omega)
theorem nO_le {v q : Nat} {x : Int32} (h : nO v x) (hv : v ≤ 512) (hq : q ≤ 512) : x ≤ nI q ↔ v ≤ q := by
  rcases h with ⟨rfl, e⟩ | rfl
  · exact ⟨fun _ => by omega, fun _ => Int32.le_trans (by decide) ((nz_ge (by omega)).mpr trivial)⟩
  · exact nI_leI (by omega) (by omega)
theorem nO_gt {v q : Nat} {x : Int32} (h : nO v x) (hv : q < v) : x = nI v := by
  rcases h with ⟨rfl, e⟩ | e
  · omega
  · exact e
theorem q_isAtEnd {post : Int32 → Prop} {sc : Nat → Nat → Nat} {so we S : Nat → Nat} {M : em_M} (h : cS sc M) (hq : cQ so we M) (hs : lS sc so S) (hc : cL sc so S M) (hp : post (bI (atE so S))) : wp_LW_isAtEnd post M := by
  unfold wp_LW_isAtEnd
  refine q_leastObject h hq hs hc ?_
  have hl := lsN_le S 12
  simp (disch := omega) only [nI_eq]
  refine ⟨fun c => ?_, fun c => q_greatestNeeded h hq hs hc (fun x hx => ?_)⟩
  · rw [lsN_512] at c
    unfold atE at hp
    rw [c] at hp; exact hp
  · rw [lsN_512] at c
    have c' : anyN (fun l => decide (S l < 512)) 12 = true := by simpa using c
    rw [nO_512 hx (gnN_le hs (Nat.le_refl _)), gnN_512 hs (Nat.le_refl _)]
    unfold atE at hp
    rw [c'] at hp
    refine ⟨fun d => ?_, fun d => ?_⟩
    · rw [show anyN (fun l => decide (so l = 2) && decide (¬ S l < 512)) 12 = false by simpa using d] at hp; exact hp
    · rw [d] at hp; exact hp
theorem m_isAtEnd {post : Int32 → Prop} {sc : Nat → Nat → Nat} {so we S : Nat → Nat} {M : em_M} (hq : mQ so we M) (hs : lS sc so S) (hc : mL so S M) (hp : post (bI (atE so S))) : wp_MD_isAtEnd post M := by
  unfold wp_MD_isAtEnd
  simp only [forall_eq]
  refine lpB (by omega) (by omega) (fun k a b => a = bI (anyN (fun l => decide (S l < 512)) k) ∧ b = bI (anyN (fun l => decide (so l = 2) && decide (¬ S l < 512)) k)) ⟨rfl, rfl⟩ ?_ ?_
  · rintro _ _ ⟨rfl, rfl⟩
    unfold atE at hp
    simp only [bI_0]
    refine ⟨fun c => ?_, fun c => ⟨fun d => ?_, fun d => ?_⟩⟩
    · rw [c] at hp; exact hp
    · rw [d, show anyN (fun l => decide (S l < 512)) 12 = true by simpa using c] at hp; exact hp
    · rw [show anyN (fun l => decide (so l = 2) && decide (¬ S l < 512)) 12 = true by simpa using d, show anyN (fun l => decide (S l < 512)) 12 = true by simpa using c] at hp; exact hp
  · rintro I mu k _ _ hk _ ⟨rfl, rfl⟩ st
    obtain ⟨g1, g2, -⟩ := hq k hk
    refine ejG (fun J => J (bI (anyN (fun l => decide (S l < 512)) (k + 1)))) ?_ (fun J hJ => ?_)
    · refine ejG (fun J => J (bI (anyN (fun l => decide (so l = 2) && decide (¬ S l < 512)) (k + 1)))) (st _ _ ⟨rfl, rfl⟩) (fun J hJ => ?_)
      simp only [anyN] at hJ
      refine ejG (fun J2 => anyN (fun l => decide (so l = 2) && decide (¬ S l < 512)) k = true ∨ (so k = 2 ∧ ¬ S k < 512) → J2) (fun c => ?_) (fun J2 hJ2 => ?_)
      · have : (anyN (fun l => decide (so l = 2) && decide (¬ S l < 512)) k || (decide (so k = 2) && decide (¬ S k < 512))) = true := by
          rcases c with c | c
          · rw [c]; rfl
          · simp [c.1, c.2]
        rw [this] at hJ; exact hJ
      · simp (disch := omega) only [bI_0, n_in, nI_clamp, g1, nI_eq]
        refine ⟨fun c => hJ2 (Or.inl (by simpa using c)), fun c => ⟨hk, ?_⟩⟩
        refine ejG (fun J3 => ¬ (so k = 2 ∧ ¬ S k < 512) → J3) (fun d => ?_) (fun J3 hJ3 => ⟨fun d => hJ3 (fun q => d q.1), fun d => m_isLine hq hs hc hk ?_⟩)
        · have : (anyN (fun l => decide (so l = 2) && decide (¬ S l < 512)) k || (decide (so k = 2) && decide (¬ S k < 512))) = false := by
            rw [c]
            by_cases a : so k = 2
            · by_cases b : S k < 512
              · simp [b]
              · exact absurd ⟨a, b⟩ d
            · simp [a]
          rw [this] at hJ; exact hJ
        · rw [bI_0]
          refine ⟨fun e => hJ3 (fun q => q.2 (by simpa using e)), fun e => hJ2 (Or.inr ⟨d, by simpa using e⟩)⟩
    · simp only [anyN] at hJ
      refine ejG (fun J2 => anyN (fun l => decide (S l < 512)) k = true ∨ S k < 512 → J2) (fun c => ?_) (fun J2 hJ2 => ?_)
      · have : (anyN (fun l => decide (S l < 512)) k || decide (S k < 512)) = true := by
          rcases c with c | c
          · rw [c]; rfl
          · simp [c]
        rw [this] at hJ; exact hJ
      · simp only [bI_0]
        refine ⟨fun c => hJ2 (Or.inl (by simpa using c)), fun c => m_isLine hq hs hc hk ?_⟩
        rw [bI_0]
        refine ⟨fun e => ?_, fun e => hJ2 (Or.inr (by simpa using e))⟩
        rw [c, e] at hJ; exact hJ
def fl (h : (Nat → RR) × Nat) (w : Nat) : Int32 := if h.2 = w then (h.1 (w - 1)).2.1 else 0
theorem q_floor {post : Int32 → Prop} {h : (Nat → RR) × Nat} {w : Nat} {M : em_M} (H : hC h.1 h.2 M) (hw0 : M 43 5 = nI w) (hw1 : 1 ≤ w) (hw : w ≤ 20) (hn : h.2 ≤ w) (hp : post (fl h w)) : wp_LW_floor post M := by
  obtain ⟨h1, h2⟩ := H
  simp (disch := omega) only [wp_LW_floor, wp_RK_isFull, wp_RK_leastNumber, h1, hw0, nI_ltI, nz_le]
  unfold fl at hp
  refine ⟨fun c => ⟨fun _ => ?_, fun q => absurd rfl q⟩, fun c => ⟨fun q => absurd q nI_10, fun _ => ⟨fun q => absurd q (by omega), fun _ => ?_⟩⟩⟩
  · rw [if_neg (by omega)] at hp; exact hp
  · rw [if_pos (by omega)] at hp
    rw [pk_sub (by omega)]
    simp (disch := omega) only [n_in, nI_clamp]
    refine ⟨by omega, ?_⟩
    have e : M 45 (h.2 - 1) = (h.1 (w - 1)).2.1 := by
      rw [show h.2 - 1 = w - 1 by omega, ← h2 (w - 1) (by omega)]; rfl
    rw [e]; exact hp
theorem m_floor {post : Int32 → Prop} {h : (Nat → RR) × Nat} {w : Nat} {M : em_M} (H : hM h.1 h.2 M) (hw0 : M 52 5 = nI w) (hw1 : 1 ≤ w) (hw : w ≤ 20) (hn : h.2 ≤ w) (hp : post (fl h w)) : wp_MD_floor post M := by
  obtain ⟨h1, h2⟩ := H
  simp (disch := omega) only [wp_MD_floor, h1, hw0, nI_leI]
  unfold fl at hp
  refine ⟨fun c => ?_, fun c => ?_⟩
  · rw [if_pos (by omega)] at hp
    rw [pk_sub (by omega)]
    simp (disch := omega) only [n_in, nI_clamp]
    refine ⟨by omega, ?_⟩
    have e : M 58 (w - 1) = (h.1 (w - 1)).2.1 := by
      rw [← h2 (w - 1) (by omega)]; rfl
    rw [e]; exact hp
  · rw [if_neg (by omega)] at hp; exact hp
theorem q_blockFor {post : Int32 → Prop} {sc : Nat → Nat → Nat} {so we S : Nat → Nat} {M : em_M} {l q : Nat} (h : cS sc M) (hq : cQ so we M) (hs : lS sc so S) (hc : cL sc so S M) (hl : l < 12) (hq5 : q < 512) (h0 : ¬ (S l ≤ q ∧ cN (sc l) q < cN (sc l) 512) → post (-1)) (h1 : S l ≤ q → cN (sc l) q < cN (sc l) 512 → post (nI (cN (sc l) q / 8))) : wp_LW_blockFor post (nI l) (nI q) M := by
  unfold wp_LW_blockFor
  refine q_standing h hq hs hc hl ?_
  have hle := (hs l hl).1
  obtain ⟨g1, g2, -⟩ := h l hl
  simp (disch := omega) only [nI_leI, n_in, nI_clamp, g1]
  refine ⟨fun c => ⟨hl, ?_⟩, fun c => h0 (fun d => c d.1)⟩
  rw [hc l hl (lS_a hs hl (by omega))]
  have hm := cN_mono (f := sc l) c
  have hm5 := cN_mono (f := sc l) (show q ≤ 512 by omega)
  refine q_firstFrom h hl (by omega) (by omega) ?_
  rw [Nat.max_eq_right hm]
  simp (disch := omega) only [nI_leI]
  refine ⟨fun d => h0 (fun e => by omega), fun d => ?_⟩
  rw [pk_div (by omega) (by omega) (by omega)]
  exact h1 c (by omega)
def bbN (sc : Nat → Nat → Nat) (we S : Nat → Nat) (q l : Nat) : Nat := if S l ≤ q ∧ cN (sc l) q < cN (sc l) 512 then we l * tpN (sc l) (8 * (cN (sc l) q / 8)) (8 * (cN (sc l) q / 8) + 8) 512 else 0
theorem q_boundOfBlocks {post : Int32 → Prop} {sc : Nat → Nat → Nat} {so we S : Nat → Nat} {M : em_M} {q : Nat} (h : cS sc M) (hq : cQ so we M) (hs : lS sc so S) (hc : cL sc so S M) (hq5 : q < 512) (hp : post (nI (smN (bbN sc we S q) 12))) : wp_LW_boundOfBlocks post (nI q) M := by
  unfold wp_LW_boundOfBlocks
  refine lpA (by omega) (by omega) (fun k a => a = nI (smN (bbN sc we S q) k)) rfl (fun a e => e ▸ hp) ?_
  rintro I mu k _ hk _ rfl st
  obtain ⟨g1, g2, g3, g4, g5⟩ := hq k hk
  have hcl := cN_le (sc k) q
  simp only [em_join, forall_eq]
  refine q_blockFor h hq hs hc hk hq5 (fun c => ⟨fun _ => st _ ?_, fun d => absurd (by decide) d⟩) (fun c d => ?_)
  · simp only [smN, bbN]; rw [if_neg c]; rfl
  · simp (disch := omega) only [nz_lt, n_in, nI_clamp, g3]
    refine ⟨fun q => q.elim, fun _ => ⟨hk, q_greatestOfBlock h hk (by omega) (by omega) (st _ ?_)⟩⟩
    rw [pk_mul, nI_add]
    simp only [smN, bbN]; rw [if_pos ⟨c, d⟩]
def lastN (f : Nat → Nat) (n : Nat) : Nat → Nat
  | 0 => 0
  | o + 1 => if 0 < f o ∧ n ≤ cN f o ∧ cN f o < n + 8 then o else lastN f n o
theorem lastN_eq {f : Nat → Nat} {n o : Nat} (ho : o < 512) (hf : 0 < f o) (h1 : cN f o + 1 = min (n + 8) (cN f 512)) (h2 : n < cN f 512) : ∀ {m : Nat}, o < m → m ≤ 512 → lastN f n m = o
  | 0, h, _ => absurd h (Nat.not_lt_zero _)
  | m + 1, h, hm => by
    simp only [lastN]
    by_cases e : o = m
    · subst e
      rw [if_pos ⟨hf, by omega, by omega⟩]
    · rw [if_neg, lastN_eq ho hf h1 h2 (m := m) (by omega) (by omega)]
      rintro ⟨a, b, c⟩
      have := cN_lt (f := f) (a := o) (b := m) (by omega) hf
      have := cN_lt (f := f) (a := m) (b := 512) (by omega) a
      omega
theorem lastN_lt {f : Nat → Nat} {n : Nat} : ∀ {m : Nat}, 0 < m → lastN f n m < m
  | 0, h => absurd h (Nat.lt_irrefl _)
  | m + 1, _ => by
    simp only [lastN]
    split
    · omega
    · by_cases e : m = 0
      · subst e; exact Nat.zero_lt_succ _
      · have := lastN_lt (f := f) (n := n) (m := m) (by omega)
        omega
def ebL (sc : Nat → Nat → Nat) (S : Nat → Nat) (q l : Nat) : Nat := if S l ≤ q ∧ cN (sc l) q < cN (sc l) 512 then lastN (sc l) (8 * (cN (sc l) q / 8)) 512 + 1 else if q < S l then S l else 512
def ebN (sc : Nat → Nat → Nat) (S : Nat → Nat) (q : Nat) : Nat → Nat
  | 0 => 512
  | k + 1 => if ebL sc S q k < ebN sc S q k then ebL sc S q k else ebN sc S q k
theorem ebN_le {sc : Nat → Nat → Nat} {S : Nat → Nat} {q : Nat} : ∀ k, ebN sc S q k ≤ 512
  | 0 => Nat.le_refl _
  | k + 1 => by
    have := ebN_le (sc := sc) (S := S) (q := q) k
    simp only [ebN]
    split <;> omega
theorem q_endOfBlocks {post : Int32 → Prop} {sc : Nat → Nat → Nat} {so we S : Nat → Nat} {M : em_M} {q : Nat} (h : cS sc M) (hq : cQ so we M) (hs : lS sc so S) (hc : cL sc so S M) (hq5 : q < 512) (hp : post (nI (ebN sc S q 12))) : wp_LW_endOfBlocks post (nI q) M := by
  unfold wp_LW_endOfBlocks
  refine lpA (by omega) (by omega) (fun k a => a = nI (ebN sc S q k)) rfl (fun a e => e ▸ hp) ?_
  rintro I mu k _ hk _ rfl st
  have hcl := cN_le (sc k) q
  have hle := (hs k hk).1
  have heb := ebN_le (sc := sc) (S := S) (q := q) k
  simp only [em_join, forall_eq]
  refine q_standing h hq hs hc hk (q_blockFor h hq hs hc hk hq5 (fun c => ⟨fun _ => ?_, fun d => absurd (by decide) d⟩) (fun c d => ?_))
  · simp (disch := omega) only [nI_leI, nI_ltI]
    refine ⟨fun e => st _ ?_, fun e => st _ ?_⟩
    · have eL : ebL sc S q k = 512 := by unfold ebL; rw [if_neg c, if_neg (show ¬ q < S k by omega)]
      simp only [ebN]; rw [eL, if_neg (by omega)]
    · have eL : ebL sc S q k = S k := by unfold ebL; rw [if_neg c, if_pos (show q < S k by omega)]
      simp only [ebN]; rw [eL]
      split <;> rfl
  · simp (disch := omega) only [nz_lt, n_in, nI_clamp]
    refine ⟨fun q => q.elim, fun _ => ⟨hk, q_lastOfBlock h hk (by omega) (by omega) (fun o o1 o2 o3 => st _ ?_)⟩⟩
    have e := lastN_eq o1 o2 o3 (by omega) (m := 512) o1 (Nat.le_refl _)
    simp (disch := omega) only [nI_add, nI_ltI]
    have eL : ebL sc S q k = o + 1 := by unfold ebL; rw [if_pos ⟨c, d⟩, e]
    simp only [ebN]; rw [eL]
    split <;> rfl
theorem m_lastOf {post : Int32 → Prop} {sc : Nat → Nat → Nat} {M : em_M} {l n : Nat} (hS : mS sc M) (hl : l < 12) (hn : n < 2 ^ 20) (hp : post (nI (lastN (sc l) n 512))) : wp_MD_lastOf post (nI l) (nI n) M := by
  unfold wp_MD_lastOf
  refine lpB (by omega) (by omega) (fun k a b => a = nI (lastN (sc l) n k) ∧ b = nI (cN (sc l) k)) ⟨rfl, rfl⟩ (fun a b e => e.1 ▸ hp) ?_
  rintro I mu k _ _ hk _ ⟨rfl, rfl⟩ st
  refine m_at hS hl hk ?_
  have hs := (hS l hl k hk).2
  have hcl := cN_le (sc l) k
  simp (disch := omega) only [em_join, forall_eq, nz_le, nI_ltI, nI_leI, nI_add n 8]
  have en : ¬ sc l k = 0 → nI (cN (sc l) k) + nI 1 = nI (cN (sc l) (k + 1)) := fun c => by
    rw [nI_add]; simp only [cN]; rw [if_pos (by omega)]
  refine ⟨fun c => st _ _ ⟨?_, ?_⟩, fun c => ⟨fun d => st _ _ ⟨?_, en c⟩, fun d => ⟨fun e => st _ _ ⟨?_, en c⟩, fun e => st _ _ ⟨?_, en c⟩⟩⟩⟩
  · simp only [lastN]; rw [if_neg (by omega)]
  · simp only [cN]; rw [if_neg (by omega)]; rfl
  · simp only [lastN]; rw [if_neg (by omega)]
  · simp only [lastN]; rw [if_neg (by omega)]
  · simp only [lastN]; rw [if_pos (by omega)]
theorem m_skipTo {post : Int32 → Prop} {sc : Nat → Nat → Nat} {so we S : Nat → Nat} {M : em_M} {q : Nat} {f : Int32} (hS : mS sc M) (hq : mQ so we M) (hs : lS sc so S) (hc : mL so S M) (hq5 : q < 512) (h0 : nI (smN (bbN sc we S q) 12) ≤ f → post (nI (ebN sc S q 12))) (h1 : ¬ nI (smN (bbN sc we S q) 12) ≤ f → post (-1)) : wp_MD_skipTo post (nI q) f M := by
  unfold wp_MD_skipTo
  refine lpB (by omega) (by omega) (fun k a b => a = nI (smN (bbN sc we S q) k) ∧ b = nI (ebN sc S q k)) ⟨rfl, rfl⟩ ?_ ?_
  · rintro _ _ ⟨rfl, rfl⟩
    exact ⟨h0, h1⟩
  rintro I mu k _ _ hk _ ⟨rfl, rfl⟩ st
  have hle := (hs k hk).1
  have heb := ebN_le (sc := sc) (S := S) (q := q) k
  obtain ⟨g1, g2, g3, g4, g5⟩ := hq k hk
  refine m_isLine hq hs hc hk ?_
  refine ejG (fun J => J (nI (smN (bbN sc we S q) (k + 1))) (nI (ebN sc S q (k + 1)))) (by simp only [forall_eq]; exact st _ _ ⟨rfl, rfl⟩) (fun J hJ => ?_)
  have same : ¬ (S k ≤ q ∧ cN (sc k) q < cN (sc k) 512) → ¬ (q < S k ∧ S k < 512) → J (nI (smN (bbN sc we S q) k)) (nI (ebN sc S q k)) := by
    intro c d
    have e1 : smN (bbN sc we S q) (k + 1) = smN (bbN sc we S q) k := by
      simp only [smN, bbN]; rw [if_neg c]; rfl
    have e2 : ebN sc S q (k + 1) = ebN sc S q k := by
      have eL : ¬ ebL sc S q k < 512 := by
        unfold ebL; rw [if_neg c]
        split <;> omega
      simp only [ebN]; rw [if_neg (by omega)]
    rw [e1, e2] at hJ; exact hJ
  refine ejG (fun J2 => ¬ (q < S k ∧ S k < 512) → J2) (fun c => m_isLine hq hs hc hk ?_) (fun J2 hJ2 => ?_)
  · rw [bI_0]
    refine ⟨fun d => same ?_ c, fun d => m_firstFrom hS hk (by omega) (fun r r1 r2 => ?_)⟩
    · have : ¬ S k < 512 := by simpa using d
      omega
    have d' : S k < 512 := by simpa using d
    have er := ff_un (by omega) r2
    rw [er] at r1 ⊢
    have hff := ff_512 (f := sc k) (o := q) (by omega)
    have hcl := cN_le (sc k) q
    simp (disch := omega) only [nI_leI]
    refine ⟨fun e => same (by omega) c, fun e => m_firstFrom hS hk (by omega) (fun r' r1' r2' => ?_)⟩
    have er' := ff_un (by omega) r2'
    rw [er']
    refine m_rank hS hk r1 ?_
    rw [cN_ff (by omega), pk_div (by omega) (by omega) (by omega), pk_mul, Nat.mul_comm]
    simp (disch := omega) only [forall_eq, nI_add, n_in, nI_clamp, g3]
    refine ⟨hk, m_topOf hS hk (by omega) (by omega) ?_⟩
    refine m_lastOf hS hk (by omega) ?_
    have hlt := lastN_lt (f := sc k) (n := 8 * (cN (sc k) q / 8)) (m := 512) (by omega)
    simp (disch := omega) only [forall_eq, em_join, nI_add, pk_mul, nI_leI]
    have cc : S k ≤ q ∧ cN (sc k) q < cN (sc k) 512 := ⟨by omega, by omega⟩
    have e1 : smN (bbN sc we S q) (k + 1) = smN (bbN sc we S q) k + we k * tpN (sc k) (8 * (cN (sc k) q / 8)) (8 * (cN (sc k) q / 8) + 8) 512 := by
      simp only [smN, bbN]; rw [if_pos cc]
    rw [e1] at hJ
    have eL : ebL sc S q k = lastN (sc k) (8 * (cN (sc k) q / 8)) 512 + 1 := by unfold ebL; rw [if_pos cc]
    simp only [ebN] at hJ
    rw [eL] at hJ
    refine ⟨fun z => ?_, fun z => ?_⟩
    · rw [if_neg (by omega)] at hJ; exact hJ
    · rw [if_pos (by omega)] at hJ; exact hJ
  · simp (disch := omega) only [bI_0, n_in, nI_clamp]
    refine ⟨fun c => hJ2 (fun d => absurd c (by simp [d.2])), fun c => ⟨hk, ?_⟩⟩
    have c' : S k < 512 := by simpa using c
    rw [hc k hk (lS_a hs hk c')]
    simp (disch := omega) only [nI_leI, em_join]
    refine ⟨fun d => hJ2 (fun e => by omega), fun d => ?_⟩
    have cc : ¬ (S k ≤ q ∧ cN (sc k) q < cN (sc k) 512) := fun z => d z.1
    have e1 : smN (bbN sc we S q) (k + 1) = smN (bbN sc we S q) k := by
      simp only [smN, bbN]; rw [if_neg cc]; rfl
    rw [e1] at hJ
    have eL : ebL sc S q k = S k := by unfold ebL; rw [if_neg cc, if_pos (show q < S k by omega)]
    simp only [ebN] at hJ
    rw [eL] at hJ
    refine ⟨fun z => ?_, fun z => ?_⟩
    · rw [if_neg (by omega)] at hJ; exact hJ
    · rw [if_pos (by omega)] at hJ; exact hJ
