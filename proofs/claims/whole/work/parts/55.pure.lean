/-! EVERY SCRIPT, pure -/
theorem pure_law {L : Nat} {xs : Nat → Int32} {M : em_M} (hL : L ≤ 2048) (H : JJ M) : wp_LA_law L xs M := by
  unfold wp_LA_law
  refine ⟨fun x M => ∃ i, i ≤ L ∧ x = nI i ∧ JJ M, fun x _ => L - x.toNatClampNeg, ⟨0, Nat.zero_le _, rfl, H⟩, ?_⟩
  rintro _ M1 ⟨i, i1, rfl, H1⟩
  have hc : Int32.ofNat L - nI 4 < nI i ↔ L < i + 4 := by
    rw [Int32.lt_iff_toInt_lt, nI_toInt (by omega)]
    have := pk_sub_toInt (a := L) (b := 4) (by omega) (by omega)
    rw [show Int32.ofNat L - nI 4 = nI L - nI 4 from rfl, this]
    omega
  rw [hc]
  refine ⟨fun _ => trivial, fun c => ?_⟩
  simp (disch := omega) only [n_in, nI_add, nI_clamp, forall_eq]
  have stp : ∀ M2, JJ M2 → (∃ i', i' ≤ L ∧ nI (i + 4) = nI i' ∧ JJ M2) ∧ L - (i + 4) < L - i := fun M2 h => ⟨⟨i + 4, by omega, rfl, h⟩, by omega⟩
  have q : ∀ (r : Int32) (M2 : em_M), JJ M2 → (r = r → (∃ i', i' ≤ L ∧ nI (i + 4) = nI i' ∧ JJ M2) ∧ L - (i + 4) < L - i) ∧ (¬ r = r → nI 0 = nI 1) := fun r M2 h => ⟨fun _ => stp M2 h, fun c => absurd rfl c⟩
  refine ⟨by omega, fun _ => stp M1 H1, ?_, ?_, ?_, ?_, ?_, ?_, ?_, ?_, ?_, ?_, ?_, ?_, ?_, ?_, ?_, ?_⟩
  · intro _; exact ⟨by omega, by omega, by omega, op_entry H1 q⟩
  · intro _; exact ⟨by omega, by omega, op_lose H1 q⟩
  · intro _; exact ⟨by omega, by omega, op_key H1 q⟩
  · intro _; exact ⟨by omega, by omega, op_top H1 q⟩
  · intro _; exact ⟨by omega, by omega, by omega, op_ask H1 q⟩
  · intro _; exact ⟨by omega, op_wanted H1 q⟩
  · intro _; exact ⟨by omega, by omega, op_place H1 q⟩
  · intro _; exact ⟨by omega, op_fits H1 q⟩
  · intro _; exact ⟨by omega, op_sum H1 q⟩
  · intro _; exact ⟨by omega, op_total H1 q⟩
  · intro _; exact ⟨by omega, op_walk H1 q⟩
  · intro _; exact op_keys H1 q
  · intro _; exact ⟨by omega, by omega, op_anew H1 q⟩
  · intro _; exact ⟨by omega, by omega, op_answer H1 q⟩
  · intro _; exact ⟨by omega, op_told H1 q⟩
  · intro _; exact ⟨by omega, op_count H1 q⟩
