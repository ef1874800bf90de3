/-! THE START: classes and arrays known; the two objects made; the law's loop -/
theorem em_ao : (.arrayOver (.object R_SL) : Cond) ∈ lw_tbl := by decide +kernel
theorem em_start {args : Array Value} {s : State} (hts : ∀ w ∈ lw_tbl, w.before args s = true) : ∃ (D : va_G) (cT : Nat → ClassId), va_K D vwCl (em_tys cT) s ∧ em_N s := by
  have hw : ∀ w ∈ wAll, w.before args s = true := fun w h => hts w (wgAll w h).1
  obtain ⟨c0, i0, k0⟩ := u_known (C := R_KS) (T := T_KS) (N := 5) (n := 5) hw in_KS (hw _ mw_169)
  obtain ⟨c1, i1, k1⟩ := u_known (C := R_LW) (T := T_LW) (N := 12) (n := 12) hw in_LW (hw _ mw_140)
  obtain ⟨c2, i2, k2⟩ := u_known (C := R_QU) (T := T_QU) (N := 7) (n := 7) hw in_QU (hw _ mw_104)
  obtain ⟨c3, i3, k3⟩ := u_known (C := R_RK) (T := T_RK) (N := 6) (n := 6) hw in_RK (hw _ mw_123)
  obtain ⟨c4, i4, k4⟩ := u_known (C := R_SL) (T := T_SL) (N := 3) (n := 3) hw in_SL (hw _ mw_88)
  obtain ⟨c5, i5, k5⟩ := u_known (C := R_SF) (T := T_SF) (N := 2) (n := 2) hw in_SF (hw _ mw_83)
  obtain ⟨c6, i6, k6⟩ := u_known (C := R_BE) (T := T_BE) (N := 7) (n := 7) hw in_BE (hw _ mw_75)
  obtain ⟨c7, i7, k7⟩ := u_known (C := R_MD) (T := T_MD) (N := 25) (n := 25) hw in_MD (hw _ mw_394)
  obtain ⟨cA, kA, compA, a1, a2, a3⟩ := Cond.arrayClass_spec (hw _ mw_98)
  have hao : va_AO R_SL s := va_AO.of (hts _ em_ao)
  obtain ⟨compB, cB, kB, b1, b2, b3, b4, b5⟩ := Cond.arrayOver_spec hao
  refine ⟨(fun k => [c0, c1, c2, c3, c4, c5, c6, c7].getD k c0, fun k => [i0, i1, i2, i3, i4, i5, i6, i7].getD k i0), fun k => if k = 0 then cA else cB, ⟨fun c q hq => ?_, fun k q hq => ?_⟩, fun w hw' => va_Nw.of (em_nw_tab w hw') (hts w ?_), hao⟩
  · match c, hq with
    | 0, hq => cases hq; exact k0
    | 1, hq => cases hq; exact k1
    | 2, hq => cases hq; exact k2
    | 3, hq => cases hq; exact k3
    | 4, hq => cases hq; exact k4
    | 5, hq => cases hq; exact k5
    | 6, hq => cases hq; exact k6
    | 7, hq => cases hq; exact k7
    | c + 8, hq => exact absurd hq (by simp [vwCl])
  · match k, hq with
    | 0, hq =>
      cases hq
      exact ⟨fun N z => ⟨(fun k h => by cases h), kA, a2, compA, a3⟩, a1⟩
    | 1, hq =>
      cases hq
      exact ⟨fun N z => ⟨(fun k h => by cases h), kB, b3, compB, b4⟩, kB, compB, b3, b4, b1, b5⟩
    | k + 2, hq => exact absurd hq (by simp [em_tys])
  · rw [em_nw_tbl] at hw'
    obtain ⟨i, _, hi⟩ := List.mem_filterMap.mp hw'
    exact List.mem_of_getElem? hi
/-- two arrays of references are one cell, if their elements are the same -/
theorem em_P_congr2 {D : va_G} {b0 : Nat} {cT : Nat → ClassId} {ad : Nat → Nat} {sh sh' : Nat → em_Sh} {n : Nat} {M : em_M} {H : Heap} (h : ∀ k, k < n → sh k = sh' k ∨ ∃ t len f f', sh k = .inr (.inr (t, len, f)) ∧ sh' k = .inr (.inr (t, len, f')) ∧ ∀ j, j < len → f j = f' j) (hP : em_P D b0 cT ad sh n M H) : em_P D b0 cT ad sh' n M H := by
  refine ⟨fun k q hq => ?_, fun i j p q hp hq e => ?_, fun k q hq => ?_⟩
  · obtain ⟨hk, rfl⟩ := em_w_lt hq
    have h0 := hP.1 k _ (em_w_at hk)
    rcases h k hk with e | ⟨t, len, f, f', e1, e2, e3⟩
    · rw [← e]; exact h0
    · rw [e1] at h0
      rw [e2]
      have h1 : H[ad k]? = some (arrV (cT t) len (fun j => va_rf (f j))) := h0
      show H[ad k]? = some (arrV (cT t) len (fun j => va_rf (f' j)))
      have e : arrV (cT t) len (fun j => va_rf (f j)) = arrV (cT t) len (fun j => va_rf (f' j)) := by
        unfold arrV
        congr 1
        apply congrArg
        funext j
        show va_rf (f j.val) = va_rf (f' j.val)
        rw [e3 j.val j.isLt]
      rw [h1, e]
  · obtain ⟨hi, rfl⟩ := em_w_lt hp
    obtain ⟨hj, rfl⟩ := em_w_lt hq
    exact hP.2.1 i j (ad i, em_ct cT (sh i) (M i)) (ad j, em_ct cT (sh j) (M j)) (em_w_at hi) (em_w_at hj) e
  · obtain ⟨hk, rfl⟩ := em_w_lt hq
    exact hP.2.2 k (ad k, em_ct cT (sh k) (M k)) (em_w_at hk)
theorem cN_z : ∀ n, cN (fun _ => 0) n = 0
  | 0 => rfl
  | n + 1 => by
    simp only [cN]
    rw [cN_z n]; rfl
abbrev M_0 : em_M := M_MD_init (M_BE_init (fun _ _ => 0))
theorem M_0_z {c : Nat} (h0 : c ≠ 40) (h1 : c ≠ 41) (h2 : c ≠ 42) (h3 : c ≠ 52) (h4 : c ≠ 56) : M_0 c = fun _ => 0 := by
  unfold M_0 M_MD_init M_BE_init M_QU_init
  simp (disch := assumption) only [eu_ne]
theorem M_0_r {l : Nat} (hl : l < 12) : M_0 41 l = 0 ∧ M_0 42 l = 1 ∧ M_0 55 l = 0 ∧ M_0 56 l = 1 := by
  rcases (show l = 0 ∨ l = 1 ∨ l = 2 ∨ l = 3 ∨ l = 4 ∨ l = 5 ∨ l = 6 ∨ l = 7 ∨ l = 8 ∨ l = 9 ∨ l = 10 ∨ l = 11 by omega) with rfl | rfl | rfl | rfl | rfl | rfl | rfl | rfl | rfl | rfl | rfl | rfl <;> exact ⟨rfl, rfl, rfl, rfl⟩
theorem JJ_0 : JJ M_0 := by
  refine ⟨fun _ _ => 0, fun _ => 0, fun _ => 1, fun _ => 0, 10, 0, fun l hl => ⟨?_, ?_, fun o ho => ⟨?_, Nat.zero_le _⟩, fun o ho h => absurd h (Nat.lt_irrefl _)⟩, fun l hl o ho => ⟨?_, Nat.zero_le _⟩, fun l hl => ⟨(M_0_r hl).1, Nat.zero_le _, (M_0_r hl).2.1, Nat.le_refl _, (by decide : (1 : Nat) ≤ 9)⟩, fun l hl => ⟨(M_0_r hl).2.2.1, Nat.zero_le _, (M_0_r hl).2.2.2, Nat.le_refl _, (by decide : (1 : Nat) ≤ 9)⟩, fun o ho => ⟨?_, ?_, (by decide : (-1000 : Int32) ≤ 0), (by decide : (0 : Int32) ≤ nI 1000)⟩, ⟨rfl, rfl, by decide, by decide⟩, Or.inl ⟨rfl, by decide⟩, ⟨?_, rfl, Nat.zero_le _, fun j hj => absurd hj (Nat.not_lt_zero _), ?_, ?_, Or.inl ?_, Or.inl ?_⟩, ?_⟩
  · rw [M_0_z (by omega) (by omega) (by omega) (by omega) (by omega)]
    show (0 : Int32) = nI (cN (fun _ => 0) 512)
    rw [cN_z]; rfl
  · show cN (fun _ => 0) 512 ≤ 120
    rw [cN_z]; exact Nat.zero_le _
  · rw [M_0_z (by omega) (by omega) (by omega) (by omega) (by omega)]; rfl
  · rw [M_0_z (by omega) (by omega) (by omega) (by omega) (by omega)]; rfl
  · rw [M_0_z (by omega) (by omega) (by omega) (by omega) (by omega)]
  · rw [M_0_z (by omega) (by omega) (by omega) (by omega) (by omega)]
  · rw [M_0_z (by omega) (by omega) (by omega) (by omega) (by omega)]; rfl
  · rw [M_0_z (c := 0) (by omega) (by omega) (by omega) (by omega) (by omega)]; rfl
  · rw [M_0_z (c := 0) (by omega) (by omega) (by omega) (by omega) (by omega)]; rfl
  · rw [M_0_z (c := 0) (by omega) (by omega) (by omega) (by omega) (by omega)]
  · rw [M_0_z (c := 0) (by omega) (by omega) (by omega) (by omega) (by omega)]
  · unfold jT
    rw [M_0_z (c := 48) (by omega) (by omega) (by omega) (by omega) (by omega), M_0_z (c := 51) (by omega) (by omega) (by omega) (by omega) (by omega)]
    exact ⟨rfl, rfl, rfl, rfl, rfl, rfl, rfl, rfl, rfl⟩
