/-! THE WALKS, written by wip/gen -/
set_option maxHeartbeats 4000000 in
set_option maxRecDepth 100000 in
theorem v_MD_sumOf {X : em_X} {D : va_G} {b0 : Nat} {cT : Nat → ClassId} {ad : Nat → Nat} {post : Int32 → Prop} {x1 : Int32} {M : em_M}  (C : em_Cx X D b0 cT R_MD b_MD_sumOf (some .int) 4 rm_MD_sumOf) (hQ : xQ X = MQ (xB X) (va_Qi (fun r M1 => M = M1 ∧ post r) (em_U D b0 cT ad (SH ad) NC) (em_A b0)) (xA X) (xS X) 0 0 (em_A b0)) (hw : wp_MD_sumOf post x1 M) : em_G X D b0 cT ad 4 (SH ad) NC 0 0 M 0 [(0, .ref (ad (52))), (1, .int x1)] [] := by
  unfold wp_MD_sumOf at hw
  refine g_iconst (v := (nI 0)) C d_MD_sumOf_0 (by decide) ?_
  refine g_istore_n (lv' := [(2, .int (nI 0)), (0, .ref (ad (52))), (1, .int x1)]) C 2 d_MD_sumOf_1 rfl (by decide) rfl ?_
  refine g_iconst (v := (nI 0)) C d_MD_sumOf_2 (by decide) ?_
  refine g_istore_n (lv' := [(3, .int (nI 0)), (2, .int (nI 0)), (0, .ref (ad (52))), (1, .int x1)]) C 3 d_MD_sumOf_3 rfl (by decide) rfl ?_
  obtain ⟨I_1, mu_1, h0, hw⟩ := hw
  refine g_sub [2, 3, 1, 0] rfl ?_
  have lp_1 : ∀ (n_1 : Nat) (x2_2 : Int32) (x3_3 : Int32) , mu_1 x2_2 x3_3 < n_1 → I_1 x2_2 x3_3 → em_G X D b0 cT ad 4 (SH ad) NC 0 0 M 4 [(0, .ref (ad (52))), (1, .int x1), (2, .int x2_2), (3, .int x3_3)] [] := by
    intro n_1
    induction n_1 with
    | zero => intro x2_2 x3_3 h; exact absurd h (Nat.not_lt_zero _)
    | succ n_1 ih_1 =>
      intro x2_2 x3_3 hn_1 hi
      have hw := hw x2_2 x3_3 hi
      refine g_iload_n C 3 3 d_MD_sumOf_4 rfl rfl ?_
      refine g_bipush (v := (nI 12)) C d_MD_sumOf_5 (by decide) ?_
      refine g_icmp_ge (tgt := 44) C d_MD_sumOf_7 (by decide) (fun hc_4 => ?_) (fun hc_4 => ?_)
      · have hw := hw.1 hc_4
        refine g_iload_n C 2 2 d_MD_sumOf_44 rfl rfl ?_
        exact g_iret C hQ rfl d_MD_sumOf_45 ⟨rfl, hw⟩
      · have hw := hw.2 hc_4
        refine g_aload_n C 0 0 d_MD_sumOf_10 rfl rfl ?_
        refine g_iload_n C 3 3 d_MD_sumOf_11 rfl rfl ?_
        refine g_callVi C 52 rfl [.int x3_3] [] (c_MD_isAsked  hw) (em_cwV C 1 mw_496 mw_497 mw_46 mw_71 mw_498 rfl rfl (by decide +kernel) (by decide)) em_nc_MD em_sh_MD rfl rfl rfl (Nat.le_of_ble_eq_true rfl) d_MD_sumOf_12 (by decide) (fun r_6 M_5 hw => ?_)
        obtain ⟨rfl, hw⟩ := hw
        obtain ⟨J_7, hJ_7, hw⟩ := em_jn1 hw
        have j_7 : ∀ (z_12 : Int32) , J_7 z_12 → em_G X D b0 cT ad 4 (SH ad) NC 0 0 M 37 [(0, .ref (ad (52))), (1, .int x1), (2, .int x2_2), (3, .int x3_3)] [.int z_12] := by
          intro z_12 hw
          have hw := hJ_7 z_12 hw
          refine g_istore_n (lv' := [(2, .int z_12), (0, .ref (ad (52))), (1, .int x1), (3, .int x3_3)]) C 2 d_MD_sumOf_37 rfl (by decide) rfl ?_
          obtain ⟨x3_13, ex3_13⟩ : ∃ y : Int32, y = x3_3 + nI 1 := ⟨_, rfl⟩
          have hw := hw x3_13 ex3_13
          refine g_iinc (v := x3_13) (lv' := [(3, .int x3_13), (2, .int z_12), (0, .ref (ad (52))), (1, .int x1)]) C 3 d_MD_sumOf_38 rfl (by rw [ex3_13]; first | rfl | (congr 1)) (by decide) rfl ?_
          refine g_goto (tgt := 4) C d_MD_sumOf_41 (by decide) ?_
          refine g_sub [2, 3, 1, 0] rfl ?_
          exact ih_1 z_12 x3_13 (Nat.lt_of_lt_of_le hw.2 (Nat.le_of_lt_succ hn_1)) hw.1
        refine g_if_eq (tgt := 36) C d_MD_sumOf_15 (by decide) (fun hc_14 => ?_) (fun hc_14 => ?_)
        · have hw := hw.1 hc_14
          refine g_iload_n C 2 2 d_MD_sumOf_36 rfl rfl ?_
          refine g_sub [0, 1, 2, 3] rfl ?_
          exact j_7 x2_2 hw
        · have hw := hw.2 hc_14
          refine g_iload_n C 2 2 d_MD_sumOf_18 rfl rfl ?_
          refine g_aload_n C 0 0 d_MD_sumOf_19 rfl rfl ?_
          refine g_getr C 52 4 rfl d_MD_sumOf_20 em_nc_MD em_sh_MD rfl (by decide) rfl in_MD mw_403 rfl ?_
          refine g_iload_n C 3 3 d_MD_sumOf_23 rfl rfl ?_
          obtain ⟨hb_15, hw⟩ := hw
          refine g_iald C 56 rfl d_MD_sumOf_24 em_nc_mWeight em_sh_mWeight rfl hb_15 ?_
          refine g_aload_n C 0 0 d_MD_sumOf_25 rfl rfl ?_
          refine g_iload_n C 3 3 d_MD_sumOf_26 rfl rfl ?_
          refine g_iload_n C 1 1 d_MD_sumOf_27 rfl rfl ?_
          refine g_callVi C 52 rfl [.int x3_3, .int x1] [.int (M (56) x3_3.toNatClampNeg), .int x2_2] (c_MD_at  hw) (em_cwV C 2 mw_456 mw_457 mw_42 mw_71 mw_458 rfl rfl (by decide +kernel) (by decide)) em_nc_MD em_sh_MD rfl rfl rfl (Nat.le_of_ble_eq_true rfl) d_MD_sumOf_28 (by decide) (fun r_17 M_16 hw => ?_)
          obtain ⟨rfl, hw⟩ := hw
          refine g_imul C d_MD_sumOf_31 ?_
          refine g_iadd C d_MD_sumOf_32 ?_
          refine g_goto (tgt := 37) C d_MD_sumOf_33 (by decide) ?_
          refine g_sub [0, 1, 2, 3] rfl ?_
          exact j_7 (x2_2 + ((M (56) x3_3.toNatClampNeg) * r_17)) hw
  exact lp_1 _ (nI 0) (nI 0) (Nat.lt_succ_self _) h0
theorem c_MD_sumOf {l : Launch} {D : va_G} {b0 : Nat} {cT : Nat → ClassId} {ad : Nat → Nat} {post : Int32 → Prop} {x1 : Int32} {M : em_M}  (hw : wp_MD_sumOf post x1 M) : Met l y_MD_sumOf (.code y_MD_sumOf b_MD_sumOf 4 (some .int) :: wAll) rm_MD_sumOf (va_Pc [.ref (ad (52)), .int x1] (em_U D b0 cT ad (SH ad) NC M)) (va_Qi (fun r M1 => M = M1 ∧ post r) (em_U D b0 cT ad (SH ad) NC) (em_A b0)) 0 0 (em_A b0) :=
  em_met (by decide) rfl (Nat.le_of_ble_eq_true rfl) (fun X C _ _ hQ => v_MD_sumOf  C hQ hw)
set_option maxHeartbeats 4000000 in
set_option maxRecDepth 100000 in
theorem v_MD_fits {X : em_X} {D : va_G} {b0 : Nat} {cT : Nat → ClassId} {ad : Nat → Nat} {post : Int32 → em_M → Prop} {x1 : Int32} {M : em_M}  (C : em_Cx X D b0 cT R_MD b_MD_fits (some .int) 2 rm_MD_fits) (hQ : xQ X = MQ (xB X) (va_Qi post (em_U D b0 cT ad (SH ad) NC) (em_A b0)) (xA X) (xS X) 0 0 (em_A b0)) (hw : wp_MD_fits post x1 M) : em_G X D b0 cT ad 2 (SH ad) NC 0 0 M 0 [(0, .ref (ad (52))), (1, .int x1)] [] := by
  unfold wp_MD_fits at hw
  refine g_aload_n C 0 0 d_MD_fits_0 rfl rfl ?_
  refine g_iconst (v := (nI 0)) C d_MD_fits_1 (by decide) ?_
  refine g_puti C 52 0 rfl ty_MD tyok_MD nm_MD d_MD_fits_2 em_nc_MD em_sh_MD rfl (by decide) rfl in_MD mw_399 rfl rfl rfl rfl rfl ?_
  refine g_nameM (fun M_1 eM_1 => ?_)
  have hw := hw M_1 eM_1
  refine g_iload_n C 1 1 d_MD_fits_5 rfl rfl ?_
  refine g_iconst (v := (nI 0)) C d_MD_fits_6 (by decide) ?_
  refine g_sipush (v := (nI 511)) C d_MD_fits_7 (by decide) ?_
  refine g_callSi C [.int x1, .int (nI 0), .int (nI 511)] [] (c_MD_in  hw) (em_cwS C 3 mw_453 mw_454 mw_71 mw_455 rfl rfl (by decide +kernel) (by decide)) rfl rfl (Nat.le_of_ble_eq_true rfl) d_MD_fits_10 (by decide) (fun r_3 M_2 hw => ?_)
  obtain ⟨rfl, hw⟩ := hw
  refine g_if_ne (tgt := 20) C d_MD_fits_13 (by decide) (fun hc_4 => ?_) (fun hc_4 => ?_)
  · have hw := hw.1 hc_4
    refine g_aload_n C 0 0 d_MD_fits_20 rfl rfl ?_
    refine g_iload_n C 1 1 d_MD_fits_21 rfl rfl ?_
    refine g_callVi C 52 rfl [.int x1] [] (c_MD_isFit  hw) (em_cwV C 1 mw_493 mw_494 mw_45 mw_71 mw_495 rfl rfl (by decide +kernel) (by decide)) em_nc_MD em_sh_MD rfl rfl rfl (Nat.le_of_ble_eq_true rfl) d_MD_fits_22 (by decide) (fun r_6 M_5 hw => ?_)
    obtain ⟨rfl, hw⟩ := hw
    refine g_if_eq (tgt := 32) C d_MD_fits_25 (by decide) (fun hc_7 => ?_) (fun hc_7 => ?_)
    · have hw := hw.1 hc_7
      refine g_iconst (v := (nI 0)) C d_MD_fits_32 (by decide) ?_
      exact g_iret C hQ rfl d_MD_fits_33 hw
    · have hw := hw.2 hc_7
      refine g_iconst (v := (nI 1)) C d_MD_fits_28 (by decide) ?_
      refine g_goto (tgt := 33) C d_MD_fits_29 (by decide) ?_
      exact g_iret C hQ rfl d_MD_fits_33 hw
  · have hw := hw.2 hc_4
    refine g_iconst (v := (-1 : Int32)) C d_MD_fits_16 (by decide) ?_
    refine g_goto (tgt := 33) C d_MD_fits_17 (by decide) ?_
    exact g_iret C hQ rfl d_MD_fits_33 hw
theorem c_MD_fits {l : Launch} {D : va_G} {b0 : Nat} {cT : Nat → ClassId} {ad : Nat → Nat} {post : Int32 → em_M → Prop} {x1 : Int32} {M : em_M}  (hw : wp_MD_fits post x1 M) : Met l y_MD_fits (.code y_MD_fits b_MD_fits 2 (some .int) :: wAll) rm_MD_fits (va_Pc [.ref (ad (52)), .int x1] (em_U D b0 cT ad (SH ad) NC M)) (va_Qi post (em_U D b0 cT ad (SH ad) NC) (em_A b0)) 0 0 (em_A b0) :=
  em_met (by decide) rfl (Nat.le_of_ble_eq_true rfl) (fun X C _ _ hQ => v_MD_fits  C hQ hw)
set_option maxHeartbeats 4000000 in
set_option maxRecDepth 100000 in
theorem v_MD_sum {X : em_X} {D : va_G} {b0 : Nat} {cT : Nat → ClassId} {ad : Nat → Nat} {post : Int32 → em_M → Prop} {x1 : Int32} {M : em_M}  (C : em_Cx X D b0 cT R_MD b_MD_sum (some .int) 2 rm_MD_sum) (hQ : xQ X = MQ (xB X) (va_Qi post (em_U D b0 cT ad (SH ad) NC) (em_A b0)) (xA X) (xS X) 0 0 (em_A b0)) (hw : wp_MD_sum post x1 M) : em_G X D b0 cT ad 2 (SH ad) NC 0 0 M 0 [(0, .ref (ad (52))), (1, .int x1)] [] := by
  unfold wp_MD_sum at hw
  refine g_aload_n C 0 0 d_MD_sum_0 rfl rfl ?_
  refine g_iconst (v := (nI 0)) C d_MD_sum_1 (by decide) ?_
  refine g_puti C 52 0 rfl ty_MD tyok_MD nm_MD d_MD_sum_2 em_nc_MD em_sh_MD rfl (by decide) rfl in_MD mw_399 rfl rfl rfl rfl rfl ?_
  refine g_nameM (fun M_1 eM_1 => ?_)
  have hw := hw M_1 eM_1
  refine g_iload_n C 1 1 d_MD_sum_5 rfl rfl ?_
  refine g_iconst (v := (nI 0)) C d_MD_sum_6 (by decide) ?_
  refine g_sipush (v := (nI 511)) C d_MD_sum_7 (by decide) ?_
  refine g_callSi C [.int x1, .int (nI 0), .int (nI 511)] [] (c_MD_in  hw) (em_cwS C 3 mw_453 mw_454 mw_71 mw_455 rfl rfl (by decide +kernel) (by decide)) rfl rfl (Nat.le_of_ble_eq_true rfl) d_MD_sum_10 (by decide) (fun r_3 M_2 hw => ?_)
  obtain ⟨rfl, hw⟩ := hw
  refine g_if_ne (tgt := 20) C d_MD_sum_13 (by decide) (fun hc_4 => ?_) (fun hc_4 => ?_)
  · have hw := hw.1 hc_4
    refine g_aload_n C 0 0 d_MD_sum_20 rfl rfl ?_
    refine g_iload_n C 1 1 d_MD_sum_21 rfl rfl ?_
    refine g_callVi C 52 rfl [.int x1] [] (c_MD_sumOf  hw) (em_cwV C 1 mw_503 mw_504 mw_47 mw_71 mw_505 rfl rfl (by decide +kernel) (by decide)) em_nc_MD em_sh_MD rfl rfl rfl (Nat.le_of_ble_eq_true rfl) d_MD_sum_22 (by decide) (fun r_6 M_5 hw => ?_)
    obtain ⟨rfl, hw⟩ := hw
    exact g_iret C hQ rfl d_MD_sum_25 hw
  · have hw := hw.2 hc_4
    refine g_iconst (v := (-1 : Int32)) C d_MD_sum_16 (by decide) ?_
    refine g_goto (tgt := 25) C d_MD_sum_17 (by decide) ?_
    exact g_iret C hQ rfl d_MD_sum_25 hw
theorem c_MD_sum {l : Launch} {D : va_G} {b0 : Nat} {cT : Nat → ClassId} {ad : Nat → Nat} {post : Int32 → em_M → Prop} {x1 : Int32} {M : em_M}  (hw : wp_MD_sum post x1 M) : Met l y_MD_sum (.code y_MD_sum b_MD_sum 2 (some .int) :: wAll) rm_MD_sum (va_Pc [.ref (ad (52)), .int x1] (em_U D b0 cT ad (SH ad) NC M)) (va_Qi post (em_U D b0 cT ad (SH ad) NC) (em_A b0)) 0 0 (em_A b0) :=
  em_met (by decide) rfl (Nat.le_of_ble_eq_true rfl) (fun X C _ _ hQ => v_MD_sum  C hQ hw)
set_option maxHeartbeats 4000000 in
set_option maxRecDepth 100000 in
theorem v_MD_total {X : em_X} {D : va_G} {b0 : Nat} {cT : Nat → ClassId} {ad : Nat → Nat} {post : Int32 → em_M → Prop} {x1 : Int32} {M : em_M}  (C : em_Cx X D b0 cT R_MD b_MD_total (some .int) 4 rm_MD_total) (hQ : xQ X = MQ (xB X) (va_Qi post (em_U D b0 cT ad (SH ad) NC) (em_A b0)) (xA X) (xS X) 0 0 (em_A b0)) (hw : wp_MD_total post x1 M) : em_G X D b0 cT ad 4 (SH ad) NC 0 0 M 0 [(0, .ref (ad (52))), (1, .int x1)] [] := by
  unfold wp_MD_total at hw
  refine g_aload_n C 0 0 d_MD_total_0 rfl rfl ?_
  refine g_iconst (v := (nI 0)) C d_MD_total_1 (by decide) ?_
  refine g_puti C 52 0 rfl ty_MD tyok_MD nm_MD d_MD_total_2 em_nc_MD em_sh_MD rfl (by decide) rfl in_MD mw_399 rfl rfl rfl rfl rfl ?_
  refine g_nameM (fun M_1 eM_1 => ?_)
  have hw := hw M_1 eM_1
  refine g_iload_n C 1 1 d_MD_total_5 rfl rfl ?_
  refine g_iconst (v := (nI 1)) C d_MD_total_6 (by decide) ?_
  refine g_sipush (v := (nI 512)) C d_MD_total_7 (by decide) ?_
  refine g_callSi C [.int x1, .int (nI 1), .int (nI 512)] [] (c_MD_in  hw) (em_cwS C 3 mw_453 mw_454 mw_71 mw_455 rfl rfl (by decide +kernel) (by decide)) rfl rfl (Nat.le_of_ble_eq_true rfl) d_MD_total_10 (by decide) (fun r_3 M_2 hw => ?_)
  obtain ⟨rfl, hw⟩ := hw
  refine g_if_ne (tgt := 18) C d_MD_total_13 (by decide) (fun hc_4 => ?_) (fun hc_4 => ?_)
  · have hw := hw.1 hc_4
    refine g_iconst (v := (nI 0)) C d_MD_total_18 (by decide) ?_
    refine g_istore_n (lv' := [(2, .int (nI 0)), (0, .ref (ad (52))), (1, .int x1)]) C 2 d_MD_total_19 rfl (by decide) rfl ?_
    refine g_iconst (v := (nI 0)) C d_MD_total_20 (by decide) ?_
    refine g_istore_n (lv' := [(3, .int (nI 0)), (2, .int (nI 0)), (0, .ref (ad (52))), (1, .int x1)]) C 3 d_MD_total_21 rfl (by decide) rfl ?_
    obtain ⟨I_5, mu_5, h0, hw⟩ := hw
    refine g_sub [2, 3, 1, 0] rfl ?_
    have lp_5 : ∀ (n_5 : Nat) (x2_6 : Int32) (x3_7 : Int32) , mu_5 x2_6 x3_7 < n_5 → I_5 x2_6 x3_7 → em_G X D b0 cT ad 4 (SH ad) NC 0 0 M_1 22 [(0, .ref (ad (52))), (1, .int x1), (2, .int x2_6), (3, .int x3_7)] [] := by
      intro n_5
      induction n_5 with
      | zero => intro x2_6 x3_7 h; exact absurd h (Nat.not_lt_zero _)
      | succ n_5 ih_5 =>
        intro x2_6 x3_7 hn_5 hi
        have hw := hw x2_6 x3_7 hi
        refine g_iload_n C 3 3 d_MD_total_22 rfl rfl ?_
        refine g_sipush (v := (nI 512)) C d_MD_total_23 (by decide) ?_
        refine g_icmp_ge (tgt := 56) C d_MD_total_26 (by decide) (fun hc_8 => ?_) (fun hc_8 => ?_)
        · have hw := hw.1 hc_8
          refine g_iload_n C 2 2 d_MD_total_56 rfl rfl ?_
          exact g_iret C hQ rfl d_MD_total_57 hw
        · have hw := hw.2 hc_8
          refine g_iload_n C 2 2 d_MD_total_29 rfl rfl ?_
          refine g_iload_n C 1 1 d_MD_total_30 rfl rfl ?_
          obtain ⟨J_9, hJ_9, hw⟩ := em_jn1 hw
          have j_9 : ∀ (z_14 : Int32) , J_9 z_14 → em_G X D b0 cT ad 4 (SH ad) NC 0 0 M_1 49 [(0, .ref (ad (52))), (1, .int x1), (2, .int x2_6), (3, .int x3_7)] [.int z_14] := by
            intro z_14 hw
            have hw := hJ_9 z_14 hw
            refine g_istore_n (lv' := [(2, .int z_14), (0, .ref (ad (52))), (1, .int x1), (3, .int x3_7)]) C 2 d_MD_total_49 rfl (by decide) rfl ?_
            obtain ⟨x3_15, ex3_15⟩ : ∃ y : Int32, y = x3_7 + nI 1 := ⟨_, rfl⟩
            have hw := hw x3_15 ex3_15
            refine g_iinc (v := x3_15) (lv' := [(3, .int x3_15), (2, .int z_14), (0, .ref (ad (52))), (1, .int x1)]) C 3 d_MD_total_50 rfl (by rw [ex3_15]; first | rfl | (congr 1)) (by decide) rfl ?_
            refine g_goto (tgt := 22) C d_MD_total_53 (by decide) ?_
            refine g_sub [2, 3, 1, 0] rfl ?_
            exact ih_5 z_14 x3_15 (Nat.lt_of_lt_of_le hw.2 (Nat.le_of_lt_succ hn_5)) hw.1
          obtain ⟨J_16, hJ_16, hw⟩ := em_jn0 hw
          have j_16 : J_16 → em_G X D b0 cT ad 4 (SH ad) NC 0 0 M_1 48 [(0, .ref (ad (52))), (1, .int x1), (2, .int x2_6), (3, .int x3_7)] [] := by
            intro  hw
            have hw := hJ_16  hw
            refine g_iload_n C 2 2 d_MD_total_48 rfl rfl ?_
            refine g_sub [0, 1, 2, 3] rfl ?_
            exact j_9 x2_6 hw
          refine g_icmp_ge (tgt := 48) C d_MD_total_31 (by decide) (fun hc_21 => ?_) (fun hc_21 => ?_)
          · have hw := hw.1 hc_21
            refine g_sub [0, 1, 2, 3] rfl ?_
            exact j_16  hw
          · have hw := hw.2 hc_21
            refine g_aload_n C 0 0 d_MD_total_34 rfl rfl ?_
            refine g_iload_n C 3 3 d_MD_total_35 rfl rfl ?_
            refine g_callVi C 52 rfl [.int x3_7] [] (c_MD_isFit  hw) (em_cwV C 1 mw_493 mw_494 mw_45 mw_71 mw_495 rfl rfl (by decide +kernel) (by decide)) em_nc_MD em_sh_MD rfl rfl rfl (Nat.le_of_ble_eq_true rfl) d_MD_total_36 (by decide) (fun r_23 M_22 hw => ?_)
            obtain ⟨rfl, hw⟩ := hw
            refine g_if_eq (tgt := 48) C d_MD_total_39 (by decide) (fun hc_24 => ?_) (fun hc_24 => ?_)
            · have hw := hw.1 hc_24
              refine g_sub [0, 1, 2, 3] rfl ?_
              exact j_16  hw
            · have hw := hw.2 hc_24
              refine g_iload_n C 2 2 d_MD_total_42 rfl rfl ?_
              refine g_iconst (v := (nI 1)) C d_MD_total_43 (by decide) ?_
              refine g_iadd C d_MD_total_44 ?_
              refine g_goto (tgt := 49) C d_MD_total_45 (by decide) ?_
              refine g_sub [0, 1, 2, 3] rfl ?_
              exact j_9 (x2_6 + (nI 1)) hw
    exact lp_5 _ (nI 0) (nI 0) (Nat.lt_succ_self _) h0
  · have hw := hw.2 hc_4
    refine g_iconst (v := (-1 : Int32)) C d_MD_total_16 (by decide) ?_
    exact g_iret C hQ rfl d_MD_total_17 hw
theorem c_MD_total {l : Launch} {D : va_G} {b0 : Nat} {cT : Nat → ClassId} {ad : Nat → Nat} {post : Int32 → em_M → Prop} {x1 : Int32} {M : em_M}  (hw : wp_MD_total post x1 M) : Met l y_MD_total (.code y_MD_total b_MD_total 4 (some .int) :: wAll) rm_MD_total (va_Pc [.ref (ad (52)), .int x1] (em_U D b0 cT ad (SH ad) NC M)) (va_Qi post (em_U D b0 cT ad (SH ad) NC) (em_A b0)) 0 0 (em_A b0) :=
  em_met (by decide) rfl (Nat.le_of_ble_eq_true rfl) (fun X C _ _ hQ => v_MD_total  C hQ hw)
set_option maxHeartbeats 4000000 in
set_option maxRecDepth 100000 in
theorem v_MD_move {X : em_X} {D : va_G} {b0 : Nat} {cT : Nat → ClassId} {ad : Nat → Nat} {post : em_M → Prop} {x1 : Int32} {x2 : Int32} {M : em_M}  (C : em_Cx X D b0 cT R_MD b_MD_move none 3 rm_MD_move) (hQ : xQ X = MQ (xB X) (va_Qv post (em_U D b0 cT ad (SH ad) NC) (em_A b0)) (xA X) (xS X) 0 0 (em_A b0)) (hw : wp_MD_move post x1 x2 M) : em_G X D b0 cT ad 3 (SH ad) NC 0 0 M 0 [(0, .ref (ad (52))), (1, .int x1), (2, .int x2)] [] := by
  unfold wp_MD_move at hw
  refine g_aload_n C 0 0 d_MD_move_0 rfl rfl ?_
  refine g_getr C 52 11 rfl d_MD_move_1 em_nc_MD em_sh_MD rfl (by decide) rfl in_MD mw_410 rfl ?_
  refine g_iload_n C 2 2 d_MD_move_4 rfl rfl ?_
  refine g_aload_n C 0 0 d_MD_move_5 rfl rfl ?_
  refine g_getr C 52 11 rfl d_MD_move_6 em_nc_MD em_sh_MD rfl (by decide) rfl in_MD mw_410 rfl ?_
  refine g_iload_n C 1 1 d_MD_move_9 rfl rfl ?_
  obtain ⟨hb_1, hw⟩ := hw
  refine g_iald C 57 rfl d_MD_move_10 em_nc_mObj em_sh_mObj rfl hb_1 ?_
  obtain ⟨hb_2, hw⟩ := hw
  refine g_iast C 57 rfl d_MD_move_11 em_nc_mObj em_sh_mObj rfl hb_2 ?_
  refine g_nameM (fun M_3 eM_3 => ?_)
  have hw := hw M_3 eM_3
  refine g_aload_n C 0 0 d_MD_move_12 rfl rfl ?_
  refine g_getr C 52 12 rfl d_MD_move_13 em_nc_MD em_sh_MD rfl (by decide) rfl in_MD mw_411 rfl ?_
  refine g_iload_n C 2 2 d_MD_move_16 rfl rfl ?_
  refine g_aload_n C 0 0 d_MD_move_17 rfl rfl ?_
  refine g_getr C 52 12 rfl d_MD_move_18 em_nc_MD em_sh_MD rfl (by decide) rfl in_MD mw_411 rfl ?_
  refine g_iload_n C 1 1 d_MD_move_21 rfl rfl ?_
  refine g_iald C 58 rfl d_MD_move_22 em_nc_mNum em_sh_mNum rfl hb_1 ?_
  refine g_iast C 58 rfl d_MD_move_23 em_nc_mNum em_sh_mNum rfl hb_2 ?_
  refine g_nameM (fun M_4 eM_4 => ?_)
  have hw := hw M_4 eM_4
  refine g_aload_n C 0 0 d_MD_move_24 rfl rfl ?_
  refine g_getr C 52 13 rfl d_MD_move_25 em_nc_MD em_sh_MD rfl (by decide) rfl in_MD mw_412 rfl ?_
  refine g_iload_n C 2 2 d_MD_move_28 rfl rfl ?_
  refine g_aload_n C 0 0 d_MD_move_29 rfl rfl ?_
  refine g_getr C 52 13 rfl d_MD_move_30 em_nc_MD em_sh_MD rfl (by decide) rfl in_MD mw_412 rfl ?_
  refine g_iload_n C 1 1 d_MD_move_33 rfl rfl ?_
  refine g_iald C 59 rfl d_MD_move_34 em_nc_mSum em_sh_mSum rfl hb_1 ?_
  refine g_iast C 59 rfl d_MD_move_35 em_nc_mSum em_sh_mSum rfl hb_2 ?_
  refine g_nameM (fun M_5 eM_5 => ?_)
  have hw := hw M_5 eM_5
  refine g_aload_n C 0 0 d_MD_move_36 rfl rfl ?_
  refine g_getr C 52 14 rfl d_MD_move_37 em_nc_MD em_sh_MD rfl (by decide) rfl in_MD mw_413 rfl ?_
  refine g_iload_n C 2 2 d_MD_move_40 rfl rfl ?_
  refine g_aload_n C 0 0 d_MD_move_41 rfl rfl ?_
  refine g_getr C 52 14 rfl d_MD_move_42 em_nc_MD em_sh_MD rfl (by decide) rfl in_MD mw_413 rfl ?_
  refine g_iload_n C 1 1 d_MD_move_45 rfl rfl ?_
  refine g_iald C 60 rfl d_MD_move_46 em_nc_mKeyT em_sh_mKeyT rfl hb_1 ?_
  refine g_iast C 60 rfl d_MD_move_47 em_nc_mKeyT em_sh_mKeyT rfl hb_2 ?_
  refine g_nameM (fun M_6 eM_6 => ?_)
  have hw := hw M_6 eM_6
  exact g_vret C hQ rfl d_MD_move_48 hw
theorem c_MD_move {l : Launch} {D : va_G} {b0 : Nat} {cT : Nat → ClassId} {ad : Nat → Nat} {post : em_M → Prop} {x1 : Int32} {x2 : Int32} {M : em_M}  (hw : wp_MD_move post x1 x2 M) : Met l y_MD_move (.code y_MD_move b_MD_move 3 none :: wAll) rm_MD_move (va_Pc [.ref (ad (52)), .int x1, .int x2] (em_U D b0 cT ad (SH ad) NC M)) (va_Qv post (em_U D b0 cT ad (SH ad) NC) (em_A b0)) 0 0 (em_A b0) :=
  em_met (by decide) rfl (Nat.le_of_ble_eq_true rfl) (fun X C _ _ hQ => v_MD_move  C hQ hw)
set_option maxHeartbeats 4000000 in
set_option maxRecDepth 100000 in
theorem v_MD_hold {X : em_X} {D : va_G} {b0 : Nat} {cT : Nat → ClassId} {ad : Nat → Nat} {post : em_M → Prop} {x1 : Int32} {x2 : Int32} {M : em_M}  (C : em_Cx X D b0 cT R_MD b_MD_hold none 4 rm_MD_hold) (hQ : xQ X = MQ (xB X) (va_Qv post (em_U D b0 cT ad (SH ad) NC) (em_A b0)) (xA X) (xS X) 0 0 (em_A b0)) (hw : wp_MD_hold post x1 x2 M) : em_G X D b0 cT ad 4 (SH ad) NC 0 0 M 0 [(0, .ref (ad (52))), (1, .int x1), (2, .int x2)] [] := by
  unfold wp_MD_hold at hw
  refine g_aload_n C 0 0 d_MD_hold_0 rfl rfl ?_
  refine g_geti C 52 8 rfl d_MD_hold_1 em_nc_MD em_sh_MD rfl (by decide) rfl in_MD mw_407 rfl ?_
  refine g_topi (fun x3_1 ex3_1 => ?_)
  have hw := hw x3_1 ex3_1
  refine g_istore_n (lv' := [(3, .int x3_1), (0, .ref (ad (52))), (1, .int x1), (2, .int x2)]) C 3 d_MD_hold_4 rfl (by decide) rfl ?_
  obtain ⟨I_2, mu_2, h0, hw⟩ := hw
  refine g_sub [1, 2, 3, 0] rfl ?_
  have lp_2 : ∀ (n_2 : Nat) (x3_3 : Int32) (M_4 : em_M) , mu_2 x3_3 M_4 < n_2 → I_2 x3_3 M_4 → em_G X D b0 cT ad 4 (SH ad) NC 0 0 M_4 5 [(0, .ref (ad (52))), (1, .int x1), (2, .int x2), (3, .int x3_3)] [] := by
    intro n_2
    induction n_2 with
    | zero => intro x3_3 M_4 h; exact absurd h (Nat.not_lt_zero _)
    | succ n_2 ih_2 =>
      intro x3_3 M_4 hn_2 hi
      have hw := hw x3_3 M_4 hi
      refine g_iload_n C 3 3 d_MD_hold_5 rfl rfl ?_
      obtain ⟨J_5, hJ_5, hw⟩ := em_jn0 hw
      have j_5 : J_5 → em_G X D b0 cT ad 4 (SH ad) NC 0 0 M_4 59 [(0, .ref (ad (52))), (1, .int x1), (2, .int x2), (3, .int x3_3)] [] := by
        intro  hw
        have hw := hJ_5  hw
        refine g_aload_n C 0 0 d_MD_hold_59 rfl rfl ?_
        refine g_getr C 52 11 rfl d_MD_hold_60 em_nc_MD em_sh_MD rfl (by decide) rfl in_MD mw_410 rfl ?_
        refine g_iload_n C 3 3 d_MD_hold_63 rfl rfl ?_
        refine g_iload_n C 1 1 d_MD_hold_64 rfl rfl ?_
        obtain ⟨hb_15, hw⟩ := hw
        refine g_iast C 57 rfl d_MD_hold_65 em_nc_mObj em_sh_mObj rfl hb_15 ?_
        refine g_nameM (fun M_16 eM_16 => ?_)
        have hw := hw M_16 eM_16
        refine g_aload_n C 0 0 d_MD_hold_66 rfl rfl ?_
        refine g_getr C 52 12 rfl d_MD_hold_67 em_nc_MD em_sh_MD rfl (by decide) rfl in_MD mw_411 rfl ?_
        refine g_iload_n C 3 3 d_MD_hold_70 rfl rfl ?_
        refine g_iload_n C 2 2 d_MD_hold_71 rfl rfl ?_
        refine g_iast C 58 rfl d_MD_hold_72 em_nc_mNum em_sh_mNum rfl hb_15 ?_
        refine g_nameM (fun M_17 eM_17 => ?_)
        have hw := hw M_17 eM_17
        refine g_aload_n C 0 0 d_MD_hold_73 rfl rfl ?_
        refine g_getr C 52 13 rfl d_MD_hold_74 em_nc_MD em_sh_MD rfl (by decide) rfl in_MD mw_412 rfl ?_
        refine g_iload_n C 3 3 d_MD_hold_77 rfl rfl ?_
        refine g_aload_n C 0 0 d_MD_hold_78 rfl rfl ?_
        refine g_iload_n C 1 1 d_MD_hold_79 rfl rfl ?_
        refine g_callVi C 52 rfl [.int x1] [.int x3_3, .ref (ad (59))] (c_MD_sumOf  hw) (em_cwV C 1 mw_503 mw_504 mw_47 mw_71 mw_505 rfl rfl (by decide +kernel) (by decide)) em_nc_MD em_sh_MD rfl rfl rfl (Nat.le_of_ble_eq_true rfl) d_MD_hold_80 (by decide) (fun r_19 M_18 hw => ?_)
        obtain ⟨rfl, hw⟩ := hw
        refine g_iast C 59 rfl d_MD_hold_83 em_nc_mSum em_sh_mSum rfl hb_15 ?_
        refine g_nameM (fun M_20 eM_20 => ?_)
        have hw := hw M_20 eM_20
        refine g_aload_n C 0 0 d_MD_hold_84 rfl rfl ?_
        refine g_getr C 52 14 rfl d_MD_hold_85 em_nc_MD em_sh_MD rfl (by decide) rfl in_MD mw_413 rfl ?_
        refine g_iload_n C 3 3 d_MD_hold_88 rfl rfl ?_
        refine g_aload_n C 0 0 d_MD_hold_89 rfl rfl ?_
        refine g_getr C 52 2 rfl d_MD_hold_90 em_nc_MD em_sh_MD rfl (by decide) rfl in_MD mw_401 rfl ?_
        refine g_iload_n C 1 1 d_MD_hold_93 rfl rfl ?_
        obtain ⟨hb_21, hw⟩ := hw
        refine g_iald C 54 rfl d_MD_hold_94 em_nc_mKey em_sh_mKey rfl hb_21 ?_
        refine g_iast C 60 rfl d_MD_hold_95 em_nc_mKeyT em_sh_mKeyT rfl hb_15 ?_
        refine g_nameM (fun M_22 eM_22 => ?_)
        have hw := hw M_22 eM_22
        refine g_aload_n C 0 0 d_MD_hold_96 rfl rfl ?_
        refine g_aload_n C 0 0 d_MD_hold_97 rfl rfl ?_
        refine g_geti C 52 8 rfl d_MD_hold_98 em_nc_MD em_sh_MD rfl (by decide) rfl in_MD mw_407 rfl ?_
        refine g_aload_n C 0 0 d_MD_hold_101 rfl rfl ?_
        refine g_geti C 52 5 rfl d_MD_hold_102 em_nc_MD em_sh_MD rfl (by decide) rfl in_MD mw_404 rfl ?_
        refine g_icmp_ne (tgt := 115) C d_MD_hold_105 (by decide) (fun hc_23 => ?_) (fun hc_23 => ?_)
        · have hw := hw.1 hc_23
          refine g_aload_n C 0 0 d_MD_hold_115 rfl rfl ?_
          refine g_geti C 52 8 rfl d_MD_hold_116 em_nc_MD em_sh_MD rfl (by decide) rfl in_MD mw_407 rfl ?_
          refine g_iconst (v := (nI 1)) C d_MD_hold_119 (by decide) ?_
          refine g_iadd C d_MD_hold_120 ?_
          refine g_puti C 52 8 rfl ty_MD tyok_MD nm_MD d_MD_hold_121 em_nc_MD em_sh_MD rfl (by decide) rfl in_MD mw_407 rfl rfl rfl rfl rfl ?_
          refine g_nameM (fun M_24 eM_24 => ?_)
          have hw := hw M_24 eM_24
          exact g_vret C hQ rfl d_MD_hold_124 hw
        · have hw := hw.2 hc_23
          refine g_aload_n C 0 0 d_MD_hold_108 rfl rfl ?_
          refine g_geti C 52 8 rfl d_MD_hold_109 em_nc_MD em_sh_MD rfl (by decide) rfl in_MD mw_407 rfl ?_
          refine g_goto (tgt := 121) C d_MD_hold_112 (by decide) ?_
          refine g_puti C 52 8 rfl ty_MD tyok_MD nm_MD d_MD_hold_121 em_nc_MD em_sh_MD rfl (by decide) rfl in_MD mw_407 rfl rfl rfl rfl rfl ?_
          refine g_nameM (fun M_25 eM_25 => ?_)
          have hw := hw M_25 eM_25
          exact g_vret C hQ rfl d_MD_hold_124 hw
      refine g_if_le (tgt := 59) C d_MD_hold_6 (by decide) (fun hc_26 => ?_) (fun hc_26 => ?_)
      · have hw := hw.1 hc_26
        refine g_sub [0, 1, 2, 3] rfl ?_
        exact j_5  hw
      · have hw := hw.2 hc_26
        refine g_aload_n C 0 0 d_MD_hold_9 rfl rfl ?_
        refine g_getr C 52 12 rfl d_MD_hold_10 em_nc_MD em_sh_MD rfl (by decide) rfl in_MD mw_411 rfl ?_
        refine g_iload_n C 3 3 d_MD_hold_13 rfl rfl ?_
        refine g_iconst (v := (nI 1)) C d_MD_hold_14 (by decide) ?_
        refine g_isub C d_MD_hold_15 ?_
        obtain ⟨hb_27, hw⟩ := hw
        refine g_iald C 58 rfl d_MD_hold_16 em_nc_mNum em_sh_mNum rfl hb_27 ?_
        refine g_iload_n C 2 2 d_MD_hold_17 rfl rfl ?_
        obtain ⟨J_28, hJ_28, hw⟩ := em_jn0 hw
        have j_28 : J_28 → em_G X D b0 cT ad 4 (SH ad) NC 0 0 M_4 45 [(0, .ref (ad (52))), (1, .int x1), (2, .int x2), (3, .int x3_3)] [] := by
          intro  hw
          have hw := hJ_28  hw
          refine g_aload_n C 0 0 d_MD_hold_45 rfl rfl ?_
          refine g_iload_n C 3 3 d_MD_hold_46 rfl rfl ?_
          refine g_iconst (v := (nI 1)) C d_MD_hold_47 (by decide) ?_
          refine g_isub C d_MD_hold_48 ?_
          refine g_iload_n C 3 3 d_MD_hold_49 rfl rfl ?_
          refine g_callVv C 52 rfl [.int (x3_3 - (nI 1)), .int x3_3] [] (c_MD_move  hw) (em_cwV C 2 mw_553 mw_554 mw_61 mw_71 mw_555 rfl rfl (by decide +kernel) (by decide)) em_nc_MD em_sh_MD rfl rfl rfl (Nat.le_of_ble_eq_true rfl) d_MD_hold_50 (by decide) (fun M_32 hw => ?_)
          obtain ⟨x3_33, ex3_33⟩ : ∃ y : Int32, y = x3_3 + (-1) := ⟨_, rfl⟩
          have hw := hw x3_33 ex3_33
          refine g_iinc (v := x3_33) (lv' := [(3, .int x3_33), (0, .ref (ad (52))), (1, .int x1), (2, .int x2)]) C 3 d_MD_hold_53 rfl (by rw [ex3_33]; first | rfl | (congr 1)) (by decide) rfl ?_
          refine g_goto (tgt := 5) C d_MD_hold_56 (by decide) ?_
          refine g_sub [1, 2, 3, 0] rfl ?_
          exact ih_2 x3_33 M_32 (Nat.lt_of_lt_of_le hw.2 (Nat.le_of_lt_succ hn_2)) hw.1
        refine g_icmp_lt (tgt := 45) C d_MD_hold_18 (by decide) (fun hc_34 => ?_) (fun hc_34 => ?_)
        · have hw := hw.1 hc_34
          refine g_sub [0, 1, 2, 3] rfl ?_
          exact j_28  hw
        · have hw := hw.2 hc_34
          refine g_aload_n C 0 0 d_MD_hold_21 rfl rfl ?_
          refine g_getr C 52 12 rfl d_MD_hold_22 em_nc_MD em_sh_MD rfl (by decide) rfl in_MD mw_411 rfl ?_
          refine g_iload_n C 3 3 d_MD_hold_25 rfl rfl ?_
          refine g_iconst (v := (nI 1)) C d_MD_hold_26 (by decide) ?_
          refine g_isub C d_MD_hold_27 ?_
          refine g_iald C 58 rfl d_MD_hold_28 em_nc_mNum em_sh_mNum rfl hb_27 ?_
          refine g_iload_n C 2 2 d_MD_hold_29 rfl rfl ?_
          refine g_icmp_ne (tgt := 59) C d_MD_hold_30 (by decide) (fun hc_35 => ?_) (fun hc_35 => ?_)
          · have hw := hw.1 hc_35
            refine g_sub [0, 1, 2, 3] rfl ?_
            exact j_5  hw
          · have hw := hw.2 hc_35
            refine g_aload_n C 0 0 d_MD_hold_33 rfl rfl ?_
            refine g_getr C 52 11 rfl d_MD_hold_34 em_nc_MD em_sh_MD rfl (by decide) rfl in_MD mw_410 rfl ?_
            refine g_iload_n C 3 3 d_MD_hold_37 rfl rfl ?_
            refine g_iconst (v := (nI 1)) C d_MD_hold_38 (by decide) ?_
            refine g_isub C d_MD_hold_39 ?_
            refine g_iald C 57 rfl d_MD_hold_40 em_nc_mObj em_sh_mObj rfl hb_27 ?_
            refine g_iload_n C 1 1 d_MD_hold_41 rfl rfl ?_
            refine g_icmp_le (tgt := 59) C d_MD_hold_42 (by decide) (fun hc_36 => ?_) (fun hc_36 => ?_)
            · have hw := hw.1 hc_36
              refine g_sub [0, 1, 2, 3] rfl ?_
              exact j_5  hw
            · have hw := hw.2 hc_36
              refine g_sub [0, 1, 2, 3] rfl ?_
              exact j_28  hw
  exact lp_2 _ x3_1 M (Nat.lt_succ_self _) h0
theorem c_MD_hold {l : Launch} {D : va_G} {b0 : Nat} {cT : Nat → ClassId} {ad : Nat → Nat} {post : em_M → Prop} {x1 : Int32} {x2 : Int32} {M : em_M}  (hw : wp_MD_hold post x1 x2 M) : Met l y_MD_hold (.code y_MD_hold b_MD_hold 4 none :: wAll) rm_MD_hold (va_Pc [.ref (ad (52)), .int x1, .int x2] (em_U D b0 cT ad (SH ad) NC M)) (va_Qv post (em_U D b0 cT ad (SH ad) NC) (em_A b0)) 0 0 (em_A b0) :=
  em_met (by decide) rfl (Nat.le_of_ble_eq_true rfl) (fun X C _ _ hQ => v_MD_hold  C hQ hw)
set_option maxHeartbeats 4000000 in
set_option maxRecDepth 100000 in
theorem v_MD_firstFrom {X : em_X} {D : va_G} {b0 : Nat} {cT : Nat → ClassId} {ad : Nat → Nat} {post : Int32 → Prop} {x1 : Int32} {x2 : Int32} {M : em_M}  (C : em_Cx X D b0 cT R_MD b_MD_firstFrom (some .int) 4 rm_MD_firstFrom) (hQ : xQ X = MQ (xB X) (va_Qi (fun r M1 => M = M1 ∧ post r) (em_U D b0 cT ad (SH ad) NC) (em_A b0)) (xA X) (xS X) 0 0 (em_A b0)) (hw : wp_MD_firstFrom post x1 x2 M) : em_G X D b0 cT ad 4 (SH ad) NC 0 0 M 0 [(0, .ref (ad (52))), (1, .int x1), (2, .int x2)] [] := by
  unfold wp_MD_firstFrom at hw
  refine g_iload_n C 2 2 d_MD_firstFrom_0 rfl rfl ?_
  refine g_istore_n (lv' := [(3, .int x2), (0, .ref (ad (52))), (1, .int x1), (2, .int x2)]) C 3 d_MD_firstFrom_1 rfl (by decide) rfl ?_
  obtain ⟨I_1, mu_1, h0, hw⟩ := hw
  refine g_sub [1, 2, 3, 0] rfl ?_
  have lp_1 : ∀ (n_1 : Nat) (x3_2 : Int32) , mu_1 x3_2 < n_1 → I_1 x3_2 → em_G X D b0 cT ad 4 (SH ad) NC 0 0 M 2 [(0, .ref (ad (52))), (1, .int x1), (2, .int x2), (3, .int x3_2)] [] := by
    intro n_1
    induction n_1 with
    | zero => intro x3_2 h; exact absurd h (Nat.not_lt_zero _)
    | succ n_1 ih_1 =>
      intro x3_2 hn_1 hi
      have hw := hw x3_2 hi
      refine g_iload_n C 3 3 d_MD_firstFrom_2 rfl rfl ?_
      refine g_sipush (v := (nI 512)) C d_MD_firstFrom_3 (by decide) ?_
      refine g_icmp_ge (tgt := 24) C d_MD_firstFrom_6 (by decide) (fun hc_3 => ?_) (fun hc_3 => ?_)
      · have hw := hw.1 hc_3
        refine g_iload_n C 3 3 d_MD_firstFrom_24 rfl rfl ?_
        exact g_iret C hQ rfl d_MD_firstFrom_25 ⟨rfl, hw⟩
      · have hw := hw.2 hc_3
        refine g_aload_n C 0 0 d_MD_firstFrom_9 rfl rfl ?_
        refine g_iload_n C 1 1 d_MD_firstFrom_10 rfl rfl ?_
        refine g_iload_n C 3 3 d_MD_firstFrom_11 rfl rfl ?_
        refine g_callVi C 52 rfl [.int x1, .int x3_2] [] (c_MD_at  hw) (em_cwV C 2 mw_456 mw_457 mw_42 mw_71 mw_458 rfl rfl (by decide +kernel) (by decide)) em_nc_MD em_sh_MD rfl rfl rfl (Nat.le_of_ble_eq_true rfl) d_MD_firstFrom_12 (by decide) (fun r_5 M_4 hw => ?_)
        obtain ⟨rfl, hw⟩ := hw
        refine g_if_ne (tgt := 24) C d_MD_firstFrom_15 (by decide) (fun hc_6 => ?_) (fun hc_6 => ?_)
        · have hw := hw.1 hc_6
          refine g_iload_n C 3 3 d_MD_firstFrom_24 rfl rfl ?_
          exact g_iret C hQ rfl d_MD_firstFrom_25 ⟨rfl, hw⟩
        · have hw := hw.2 hc_6
          obtain ⟨x3_7, ex3_7⟩ : ∃ y : Int32, y = x3_2 + nI 1 := ⟨_, rfl⟩
          have hw := hw x3_7 ex3_7
          refine g_iinc (v := x3_7) (lv' := [(3, .int x3_7), (0, .ref (ad (52))), (1, .int x1), (2, .int x2)]) C 3 d_MD_firstFrom_18 rfl (by rw [ex3_7]; first | rfl | (congr 1)) (by decide) rfl ?_
          refine g_goto (tgt := 2) C d_MD_firstFrom_21 (by decide) ?_
          refine g_sub [1, 2, 3, 0] rfl ?_
          exact ih_1 x3_7 (Nat.lt_of_lt_of_le hw.2 (Nat.le_of_lt_succ hn_1)) hw.1
  exact lp_1 _ x2 (Nat.lt_succ_self _) h0
theorem c_MD_firstFrom {l : Launch} {D : va_G} {b0 : Nat} {cT : Nat → ClassId} {ad : Nat → Nat} {post : Int32 → Prop} {x1 : Int32} {x2 : Int32} {M : em_M}  (hw : wp_MD_firstFrom post x1 x2 M) : Met l y_MD_firstFrom (.code y_MD_firstFrom b_MD_firstFrom 4 (some .int) :: wAll) rm_MD_firstFrom (va_Pc [.ref (ad (52)), .int x1, .int x2] (em_U D b0 cT ad (SH ad) NC M)) (va_Qi (fun r M1 => M = M1 ∧ post r) (em_U D b0 cT ad (SH ad) NC) (em_A b0)) 0 0 (em_A b0) :=
  em_met (by decide) rfl (Nat.le_of_ble_eq_true rfl) (fun X C _ _ hQ => v_MD_firstFrom  C hQ hw)
set_option maxHeartbeats 4000000 in
set_option maxRecDepth 100000 in
theorem v_MD_jump {X : em_X} {D : va_G} {b0 : Nat} {cT : Nat → ClassId} {ad : Nat → Nat} {post : em_M → Prop} {x1 : Int32} {x2 : Int32} {M : em_M}  (C : em_Cx X D b0 cT R_MD b_MD_jump none 4 rm_MD_jump) (hQ : xQ X = MQ (xB X) (va_Qv post (em_U D b0 cT ad (SH ad) NC) (em_A b0)) (xA X) (xS X) 0 0 (em_A b0)) (hw : wp_MD_jump post x1 x2 M) : em_G X D b0 cT ad 4 (SH ad) NC 0 0 M 0 [(0, .ref (ad (52))), (1, .int x1), (2, .int x2)] [] := by
  unfold wp_MD_jump at hw
  refine g_aload_n C 0 0 d_MD_jump_0 rfl rfl ?_
  refine g_getr C 52 15 rfl d_MD_jump_1 em_nc_MD em_sh_MD rfl (by decide) rfl in_MD mw_414 rfl ?_
  refine g_iload_n C 1 1 d_MD_jump_4 rfl rfl ?_
  obtain ⟨hb_1, hw⟩ := hw
  refine g_iald C 61 rfl d_MD_jump_5 em_nc_mLine em_sh_mLine rfl hb_1 ?_
  refine g_topi (fun x3_2 ex3_2 => ?_)
  have hw := hw x3_2 ex3_2
  refine g_istore_n (lv' := [(3, .int x3_2), (0, .ref (ad (52))), (1, .int x1), (2, .int x2)]) C 3 d_MD_jump_6 rfl (by decide) rfl ?_
  obtain ⟨I_3, mu_3, h0, hw⟩ := hw
  refine g_sub [1, 2, 3, 0] rfl ?_
  have lp_3 : ∀ (n_3 : Nat) (x3_4 : Int32) (M_5 : em_M) , mu_3 x3_4 M_5 < n_3 → I_3 x3_4 M_5 → em_G X D b0 cT ad 4 (SH ad) NC 0 0 M_5 7 [(0, .ref (ad (52))), (1, .int x1), (2, .int x2), (3, .int x3_4)] [] := by
    intro n_3
    induction n_3 with
    | zero => intro x3_4 M_5 h; exact absurd h (Nat.not_lt_zero _)
    | succ n_3 ih_3 =>
      intro x3_4 M_5 hn_3 hi
      have hw := hw x3_4 M_5 hi
      refine g_iload_n C 3 3 d_MD_jump_7 rfl rfl ?_
      refine g_iload_n C 2 2 d_MD_jump_8 rfl rfl ?_
      obtain ⟨J_6, hJ_6, hw⟩ := em_jn0 hw
      have j_6 : J_6 → em_G X D b0 cT ad 4 (SH ad) NC 0 0 M_5 51 [(0, .ref (ad (52))), (1, .int x1), (2, .int x2), (3, .int x3_4)] [] := by
        intro  hw
        have hw := hJ_6  hw
        refine g_aload_n C 0 0 d_MD_jump_51 rfl rfl ?_
        refine g_getr C 52 15 rfl d_MD_jump_52 em_nc_MD em_sh_MD rfl (by decide) rfl in_MD mw_414 rfl ?_
        refine g_iload_n C 1 1 d_MD_jump_55 rfl rfl ?_
        refine g_aload_n C 0 0 d_MD_jump_56 rfl rfl ?_
        refine g_getr C 52 15 rfl d_MD_jump_57 em_nc_MD em_sh_MD rfl (by decide) rfl in_MD mw_414 rfl ?_
        refine g_iload_n C 1 1 d_MD_jump_60 rfl rfl ?_
        refine g_iald C 61 rfl d_MD_jump_61 em_nc_mLine em_sh_mLine rfl hb_1 ?_
        refine g_iload_n C 2 2 d_MD_jump_62 rfl rfl ?_
        refine g_icmp_ge (tgt := 75) C d_MD_jump_63 (by decide) (fun hc_16 => ?_) (fun hc_16 => ?_)
        · have hw := hw.1 hc_16
          refine g_aload_n C 0 0 d_MD_jump_75 rfl rfl ?_
          refine g_getr C 52 15 rfl d_MD_jump_76 em_nc_MD em_sh_MD rfl (by decide) rfl in_MD mw_414 rfl ?_
          refine g_iload_n C 1 1 d_MD_jump_79 rfl rfl ?_
          refine g_iald C 61 rfl d_MD_jump_80 em_nc_mLine em_sh_mLine rfl hb_1 ?_
          refine g_iast C 61 rfl d_MD_jump_81 em_nc_mLine em_sh_mLine rfl hb_1 ?_
          refine g_nameM (fun M_17 eM_17 => ?_)
          have hw := hw M_17 eM_17
          exact g_vret C hQ rfl d_MD_jump_82 hw
        · have hw := hw.2 hc_16
          refine g_aload_n C 0 0 d_MD_jump_66 rfl rfl ?_
          refine g_iload_n C 1 1 d_MD_jump_67 rfl rfl ?_
          refine g_iload_n C 2 2 d_MD_jump_68 rfl rfl ?_
          refine g_callVi C 52 rfl [.int x1, .int x2] [.int x1, .ref (ad (61))] (c_MD_firstFrom  hw) (em_cwV C 2 mw_514 mw_515 mw_48 mw_71 mw_516 rfl rfl (by decide +kernel) (by decide)) em_nc_MD em_sh_MD rfl rfl rfl (Nat.le_of_ble_eq_true rfl) d_MD_jump_69 (by decide) (fun r_19 M_18 hw => ?_)
          obtain ⟨rfl, hw⟩ := hw
          refine g_goto (tgt := 81) C d_MD_jump_72 (by decide) ?_
          refine g_iast C 61 rfl d_MD_jump_81 em_nc_mLine em_sh_mLine rfl hb_1 ?_
          refine g_nameM (fun M_20 eM_20 => ?_)
          have hw := hw M_20 eM_20
          exact g_vret C hQ rfl d_MD_jump_82 hw
      refine g_icmp_ge (tgt := 51) C d_MD_jump_9 (by decide) (fun hc_21 => ?_) (fun hc_21 => ?_)
      · have hw := hw.1 hc_21
        refine g_sub [0, 1, 2, 3] rfl ?_
        exact j_6  hw
      · have hw := hw.2 hc_21
        refine g_iload_n C 3 3 d_MD_jump_12 rfl rfl ?_
        refine g_sipush (v := (nI 512)) C d_MD_jump_13 (by decide) ?_
        refine g_icmp_ge (tgt := 51) C d_MD_jump_16 (by decide) (fun hc_22 => ?_) (fun hc_22 => ?_)
        · have hw := hw.1 hc_22
          refine g_sub [0, 1, 2, 3] rfl ?_
          exact j_6  hw
        · have hw := hw.2 hc_22
          refine g_aload_n C 0 0 d_MD_jump_19 rfl rfl ?_
          refine g_aload_n C 0 0 d_MD_jump_20 rfl rfl ?_
          refine g_iload_n C 1 1 d_MD_jump_21 rfl rfl ?_
          refine g_iload_n C 3 3 d_MD_jump_22 rfl rfl ?_
          refine g_callVi C 52 rfl [.int x1, .int x3_4] [.ref (ad (52))] (c_MD_at  hw) (em_cwV C 2 mw_456 mw_457 mw_42 mw_71 mw_458 rfl rfl (by decide +kernel) (by decide)) em_nc_MD em_sh_MD rfl rfl rfl (Nat.le_of_ble_eq_true rfl) d_MD_jump_23 (by decide) (fun r_24 M_23 hw => ?_)
          obtain ⟨rfl, hw⟩ := hw
          obtain ⟨J_25, hJ_25, hw⟩ := em_jn1 hw
          have j_25 : ∀ (z_27 : Int32) , J_25 z_27 → em_G X D b0 cT ad 4 (SH ad) NC 0 0 M_5 42 [(0, .ref (ad (52))), (1, .int x1), (2, .int x2), (3, .int x3_4)] [.int z_27, .ref (ad (52))] := by
            intro z_27 hw
            have hw := hJ_25 z_27 hw
            refine g_puti C 52 19 rfl ty_MD tyok_MD nm_MD d_MD_jump_42 em_nc_MD em_sh_MD rfl (by decide) rfl in_MD mw_418 rfl rfl rfl rfl rfl ?_
            refine g_nameM (fun M_28 eM_28 => ?_)
            have hw := hw M_28 eM_28
            obtain ⟨x3_29, ex3_29⟩ : ∃ y : Int32, y = x3_4 + nI 1 := ⟨_, rfl⟩
            have hw := hw x3_29 ex3_29
            refine g_iinc (v := x3_29) (lv' := [(3, .int x3_29), (0, .ref (ad (52))), (1, .int x1), (2, .int x2)]) C 3 d_MD_jump_45 rfl (by rw [ex3_29]; first | rfl | (congr 1)) (by decide) rfl ?_
            refine g_goto (tgt := 7) C d_MD_jump_48 (by decide) ?_
            refine g_sub [1, 2, 3, 0] rfl ?_
            exact ih_3 x3_29 M_28 (Nat.lt_of_lt_of_le hw.2 (Nat.le_of_lt_succ hn_3)) hw.1
          refine g_if_le (tgt := 38) C d_MD_jump_26 (by decide) (fun hc_30 => ?_) (fun hc_30 => ?_)
          · have hw := hw.1 hc_30
            refine g_aload_n C 0 0 d_MD_jump_38 rfl rfl ?_
            refine g_geti C 52 19 rfl d_MD_jump_39 em_nc_MD em_sh_MD rfl (by decide) rfl in_MD mw_418 rfl ?_
            refine g_sub [0, 1, 2, 3] rfl ?_
            exact j_25 (M_5 (52) 19) hw
          · have hw := hw.2 hc_30
            refine g_aload_n C 0 0 d_MD_jump_29 rfl rfl ?_
            refine g_geti C 52 19 rfl d_MD_jump_30 em_nc_MD em_sh_MD rfl (by decide) rfl in_MD mw_418 rfl ?_
            refine g_iconst (v := (nI 1)) C d_MD_jump_33 (by decide) ?_
            refine g_iadd C d_MD_jump_34 ?_
            refine g_goto (tgt := 42) C d_MD_jump_35 (by decide) ?_
            refine g_sub [0, 1, 2, 3] rfl ?_
            exact j_25 ((M_5 (52) 19) + (nI 1)) hw
  exact lp_3 _ x3_2 M (Nat.lt_succ_self _) h0
theorem c_MD_jump {l : Launch} {D : va_G} {b0 : Nat} {cT : Nat → ClassId} {ad : Nat → Nat} {post : em_M → Prop} {x1 : Int32} {x2 : Int32} {M : em_M}  (hw : wp_MD_jump post x1 x2 M) : Met l y_MD_jump (.code y_MD_jump b_MD_jump 4 none :: wAll) rm_MD_jump (va_Pc [.ref (ad (52)), .int x1, .int x2] (em_U D b0 cT ad (SH ad) NC M)) (va_Qv post (em_U D b0 cT ad (SH ad) NC) (em_A b0)) 0 0 (em_A b0) :=
  em_met (by decide) rfl (Nat.le_of_ble_eq_true rfl) (fun X C _ _ hQ => v_MD_jump  C hQ hw)
set_option maxHeartbeats 4000000 in
set_option maxRecDepth 100000 in
theorem v_MD_isLine {X : em_X} {D : va_G} {b0 : Nat} {cT : Nat → ClassId} {ad : Nat → Nat} {post : Int32 → Prop} {x1 : Int32} {M : em_M}  (C : em_Cx X D b0 cT R_MD b_MD_isLine (some .boolean) 2 rm_MD_isLine) (hQ : xQ X = MQ (xB X) (va_Qi (fun r M1 => M = M1 ∧ post r) (em_U D b0 cT ad (SH ad) NC) (em_A b0)) (xA X) (xS X) 0 0 (em_A b0)) (hw : wp_MD_isLine post x1 M) : em_G X D b0 cT ad 2 (SH ad) NC 0 0 M 0 [(0, .ref (ad (52))), (1, .int x1)] [] := by
  unfold wp_MD_isLine at hw
  refine g_aload_n C 0 0 d_MD_isLine_0 rfl rfl ?_
  refine g_iload_n C 1 1 d_MD_isLine_1 rfl rfl ?_
  refine g_callVi C 52 rfl [.int x1] [] (c_MD_isAsked  hw) (em_cwV C 1 mw_496 mw_497 mw_46 mw_71 mw_498 rfl rfl (by decide +kernel) (by decide)) em_nc_MD em_sh_MD rfl rfl rfl (Nat.le_of_ble_eq_true rfl) d_MD_isLine_2 (by decide) (fun r_2 M_1 hw => ?_)
  obtain ⟨rfl, hw⟩ := hw
  refine g_if_eq (tgt := 24) C d_MD_isLine_5 (by decide) (fun hc_3 => ?_) (fun hc_3 => ?_)
  · have hw := hw.1 hc_3
    refine g_iconst (v := (nI 0)) C d_MD_isLine_24 (by decide) ?_
    exact g_zret C hQ rfl rfl d_MD_isLine_25 ⟨rfl, hw⟩
  · have hw := hw.2 hc_3
    refine g_aload_n C 0 0 d_MD_isLine_8 rfl rfl ?_
    refine g_getr C 52 15 rfl d_MD_isLine_9 em_nc_MD em_sh_MD rfl (by decide) rfl in_MD mw_414 rfl ?_
    refine g_iload_n C 1 1 d_MD_isLine_12 rfl rfl ?_
    obtain ⟨hb_4, hw⟩ := hw
    refine g_iald C 61 rfl d_MD_isLine_13 em_nc_mLine em_sh_mLine rfl hb_4 ?_
    refine g_sipush (v := (nI 512)) C d_MD_isLine_14 (by decide) ?_
    refine g_icmp_ge (tgt := 24) C d_MD_isLine_17 (by decide) (fun hc_5 => ?_) (fun hc_5 => ?_)
    · have hw := hw.1 hc_5
      refine g_iconst (v := (nI 0)) C d_MD_isLine_24 (by decide) ?_
      exact g_zret C hQ rfl rfl d_MD_isLine_25 ⟨rfl, hw⟩
    · have hw := hw.2 hc_5
      refine g_iconst (v := (nI 1)) C d_MD_isLine_20 (by decide) ?_
      refine g_goto (tgt := 25) C d_MD_isLine_21 (by decide) ?_
      exact g_zret C hQ rfl rfl d_MD_isLine_25 ⟨rfl, hw⟩
theorem c_MD_isLine {l : Launch} {D : va_G} {b0 : Nat} {cT : Nat → ClassId} {ad : Nat → Nat} {post : Int32 → Prop} {x1 : Int32} {M : em_M}  (hw : wp_MD_isLine post x1 M) : Met l y_MD_isLine (.code y_MD_isLine b_MD_isLine 2 (some .boolean) :: wAll) rm_MD_isLine (va_Pc [.ref (ad (52)), .int x1] (em_U D b0 cT ad (SH ad) NC M)) (va_Qi (fun r M1 => M = M1 ∧ post r) (em_U D b0 cT ad (SH ad) NC) (em_A b0)) 0 0 (em_A b0) :=
  em_met (by decide) rfl (Nat.le_of_ble_eq_true rfl) (fun X C _ _ hQ => v_MD_isLine  C hQ hw)
set_option maxHeartbeats 4000000 in
set_option maxRecDepth 100000 in
theorem v_MD_jumpAll {X : em_X} {D : va_G} {b0 : Nat} {cT : Nat → ClassId} {ad : Nat → Nat} {post : em_M → Prop} {x1 : Int32} {M : em_M}  (C : em_Cx X D b0 cT R_MD b_MD_jumpAll none 3 rm_MD_jumpAll) (hQ : xQ X = MQ (xB X) (va_Qv post (em_U D b0 cT ad (SH ad) NC) (em_A b0)) (xA X) (xS X) 0 0 (em_A b0)) (hw : wp_MD_jumpAll post x1 M) : em_G X D b0 cT ad 3 (SH ad) NC 0 0 M 0 [(0, .ref (ad (52))), (1, .int x1)] [] := by
  unfold wp_MD_jumpAll at hw
  refine g_iconst (v := (nI 0)) C d_MD_jumpAll_0 (by decide) ?_
  refine g_istore_n (lv' := [(2, .int (nI 0)), (0, .ref (ad (52))), (1, .int x1)]) C 2 d_MD_jumpAll_1 rfl (by decide) rfl ?_
  obtain ⟨I_1, mu_1, h0, hw⟩ := hw
  refine g_sub [1, 2, 0] rfl ?_
  have lp_1 : ∀ (n_1 : Nat) (x2_2 : Int32) (M_3 : em_M) , mu_1 x2_2 M_3 < n_1 → I_1 x2_2 M_3 → em_G X D b0 cT ad 3 (SH ad) NC 0 0 M_3 2 [(0, .ref (ad (52))), (1, .int x1), (2, .int x2_2)] [] := by
    intro n_1
    induction n_1 with
    | zero => intro x2_2 M_3 h; exact absurd h (Nat.not_lt_zero _)
    | succ n_1 ih_1 =>
      intro x2_2 M_3 hn_1 hi
      have hw := hw x2_2 M_3 hi
      refine g_iload_n C 2 2 d_MD_jumpAll_2 rfl rfl ?_
      refine g_bipush (v := (nI 12)) C d_MD_jumpAll_3 (by decide) ?_
      refine g_icmp_ge (tgt := 28) C d_MD_jumpAll_5 (by decide) (fun hc_4 => ?_) (fun hc_4 => ?_)
      · have hw := hw.1 hc_4
        exact g_vret C hQ rfl d_MD_jumpAll_28 hw
      · have hw := hw.2 hc_4
        refine g_aload_n C 0 0 d_MD_jumpAll_8 rfl rfl ?_
        refine g_iload_n C 2 2 d_MD_jumpAll_9 rfl rfl ?_
        refine g_callVi C 52 rfl [.int x2_2] [] (c_MD_isLine  hw) (em_cwV C 1 mw_523 mw_524 mw_51 mw_71 mw_525 rfl rfl (by decide +kernel) (by decide)) em_nc_MD em_sh_MD rfl rfl rfl (Nat.le_of_ble_eq_true rfl) d_MD_jumpAll_10 (by decide) (fun r_6 M_5 hw => ?_)
        obtain ⟨rfl, hw⟩ := hw
        obtain ⟨J_7, hJ_7, hw⟩ := em_jn1 hw
        have j_7 : ∀ (M_10 : em_M) , J_7 M_10 → em_G X D b0 cT ad 3 (SH ad) NC 0 0 M_10 22 [(0, .ref (ad (52))), (1, .int x1), (2, .int x2_2)] [] := by
          intro M_10 hw
          have hw := hJ_7 M_10 hw
          obtain ⟨x2_11, ex2_11⟩ : ∃ y : Int32, y = x2_2 + nI 1 := ⟨_, rfl⟩
          have hw := hw x2_11 ex2_11
          refine g_iinc (v := x2_11) (lv' := [(2, .int x2_11), (0, .ref (ad (52))), (1, .int x1)]) C 2 d_MD_jumpAll_22 rfl (by rw [ex2_11]; first | rfl | (congr 1)) (by decide) rfl ?_
          refine g_goto (tgt := 2) C d_MD_jumpAll_25 (by decide) ?_
          refine g_sub [1, 2, 0] rfl ?_
          exact ih_1 x2_11 M_10 (Nat.lt_of_lt_of_le hw.2 (Nat.le_of_lt_succ hn_1)) hw.1
        refine g_if_eq (tgt := 22) C d_MD_jumpAll_13 (by decide) (fun hc_12 => ?_) (fun hc_12 => ?_)
        · have hw := hw.1 hc_12
          refine g_sub [0, 1, 2] rfl ?_
          exact j_7 M_3 hw
        · have hw := hw.2 hc_12
          refine g_aload_n C 0 0 d_MD_jumpAll_16 rfl rfl ?_
          refine g_iload_n C 2 2 d_MD_jumpAll_17 rfl rfl ?_
          refine g_iload_n C 1 1 d_MD_jumpAll_18 rfl rfl ?_
          refine g_callVv C 52 rfl [.int x2_2, .int x1] [] (c_MD_jump  hw) (em_cwV C 2 mw_544 mw_545 mw_58 mw_71 mw_546 rfl rfl (by decide +kernel) (by decide)) em_nc_MD em_sh_MD rfl rfl rfl (Nat.le_of_ble_eq_true rfl) d_MD_jumpAll_19 (by decide) (fun M_13 hw => ?_)
          refine g_sub [0, 1, 2] rfl ?_
          exact j_7 M_13 hw
  exact lp_1 _ (nI 0) M (Nat.lt_succ_self _) h0
theorem c_MD_jumpAll {l : Launch} {D : va_G} {b0 : Nat} {cT : Nat → ClassId} {ad : Nat → Nat} {post : em_M → Prop} {x1 : Int32} {M : em_M}  (hw : wp_MD_jumpAll post x1 M) : Met l y_MD_jumpAll (.code y_MD_jumpAll b_MD_jumpAll 3 none :: wAll) rm_MD_jumpAll (va_Pc [.ref (ad (52)), .int x1] (em_U D b0 cT ad (SH ad) NC M)) (va_Qv post (em_U D b0 cT ad (SH ad) NC) (em_A b0)) 0 0 (em_A b0) :=
  em_met (by decide) rfl (Nat.le_of_ble_eq_true rfl) (fun X C _ _ hQ => v_MD_jumpAll  C hQ hw)
set_option maxHeartbeats 4000000 in
set_option maxRecDepth 100000 in
theorem v_MD_floor {X : em_X} {D : va_G} {b0 : Nat} {cT : Nat → ClassId} {ad : Nat → Nat} {post : Int32 → Prop}  {M : em_M}  (C : em_Cx X D b0 cT R_MD b_MD_floor (some .int) 1 rm_MD_floor) (hQ : xQ X = MQ (xB X) (va_Qi (fun r M1 => M = M1 ∧ post r) (em_U D b0 cT ad (SH ad) NC) (em_A b0)) (xA X) (xS X) 0 0 (em_A b0)) (hw : wp_MD_floor post  M) : em_G X D b0 cT ad 1 (SH ad) NC 0 0 M 0 [(0, .ref (ad (52)))] [] := by
  unfold wp_MD_floor at hw
  refine g_aload_n C 0 0 d_MD_floor_0 rfl rfl ?_
  refine g_geti C 52 8 rfl d_MD_floor_1 em_nc_MD em_sh_MD rfl (by decide) rfl in_MD mw_407 rfl ?_
  refine g_aload_n C 0 0 d_MD_floor_4 rfl rfl ?_
  refine g_geti C 52 5 rfl d_MD_floor_5 em_nc_MD em_sh_MD rfl (by decide) rfl in_MD mw_404 rfl ?_
  refine g_icmp_ge (tgt := 15) C d_MD_floor_8 (by decide) (fun hc_1 => ?_) (fun hc_1 => ?_)
  · have hw := hw.1 hc_1
    refine g_aload_n C 0 0 d_MD_floor_15 rfl rfl ?_
    refine g_getr C 52 12 rfl d_MD_floor_16 em_nc_MD em_sh_MD rfl (by decide) rfl in_MD mw_411 rfl ?_
    refine g_aload_n C 0 0 d_MD_floor_19 rfl rfl ?_
    refine g_geti C 52 5 rfl d_MD_floor_20 em_nc_MD em_sh_MD rfl (by decide) rfl in_MD mw_404 rfl ?_
    refine g_iconst (v := (nI 1)) C d_MD_floor_23 (by decide) ?_
    refine g_isub C d_MD_floor_24 ?_
    obtain ⟨hb_2, hw⟩ := hw
    refine g_iald C 58 rfl d_MD_floor_25 em_nc_mNum em_sh_mNum rfl hb_2 ?_
    exact g_iret C hQ rfl d_MD_floor_26 ⟨rfl, hw⟩
  · have hw := hw.2 hc_1
    refine g_iconst (v := (nI 0)) C d_MD_floor_11 (by decide) ?_
    refine g_goto (tgt := 26) C d_MD_floor_12 (by decide) ?_
    exact g_iret C hQ rfl d_MD_floor_26 ⟨rfl, hw⟩
theorem c_MD_floor {l : Launch} {D : va_G} {b0 : Nat} {cT : Nat → ClassId} {ad : Nat → Nat} {post : Int32 → Prop}  {M : em_M}  (hw : wp_MD_floor post  M) : Met l y_MD_floor (.code y_MD_floor b_MD_floor 1 (some .int) :: wAll) rm_MD_floor (va_Pc [.ref (ad (52))] (em_U D b0 cT ad (SH ad) NC M)) (va_Qi (fun r M1 => M = M1 ∧ post r) (em_U D b0 cT ad (SH ad) NC) (em_A b0)) 0 0 (em_A b0) :=
  em_met (by decide) rfl (Nat.le_of_ble_eq_true rfl) (fun X C _ _ hQ => v_MD_floor  C hQ hw)
set_option maxHeartbeats 4000000 in
set_option maxRecDepth 100000 in
theorem v_MD_isAtEnd {X : em_X} {D : va_G} {b0 : Nat} {cT : Nat → ClassId} {ad : Nat → Nat} {post : Int32 → Prop}  {M : em_M}  (C : em_Cx X D b0 cT R_MD b_MD_isAtEnd (some .boolean) 4 rm_MD_isAtEnd) (hQ : xQ X = MQ (xB X) (va_Qi (fun r M1 => M = M1 ∧ post r) (em_U D b0 cT ad (SH ad) NC) (em_A b0)) (xA X) (xS X) 0 0 (em_A b0)) (hw : wp_MD_isAtEnd post  M) : em_G X D b0 cT ad 4 (SH ad) NC 0 0 M 0 [(0, .ref (ad (52)))] [] := by
  unfold wp_MD_isAtEnd at hw
  refine g_iconst (v := (nI 0)) C d_MD_isAtEnd_0 (by decide) ?_
  refine g_istore_n (lv' := [(1, .int (nI 0)), (0, .ref (ad (52)))]) C 1 d_MD_isAtEnd_1 rfl (by decide) rfl ?_
  refine g_iconst (v := (nI 0)) C d_MD_isAtEnd_2 (by decide) ?_
  refine g_istore_n (lv' := [(2, .int (nI 0)), (1, .int (nI 0)), (0, .ref (ad (52)))]) C 2 d_MD_isAtEnd_3 rfl (by decide) rfl ?_
  refine g_iconst (v := (nI 0)) C d_MD_isAtEnd_4 (by decide) ?_
  refine g_istore_n (lv' := [(3, .int (nI 0)), (2, .int (nI 0)), (1, .int (nI 0)), (0, .ref (ad (52)))]) C 3 d_MD_isAtEnd_5 rfl (by decide) rfl ?_
  obtain ⟨I_1, mu_1, h0, hw⟩ := hw
  refine g_sub [3, 2, 1, 0] rfl ?_
  have lp_1 : ∀ (n_1 : Nat) (x1_2 : Int32) (x2_3 : Int32) (x3_4 : Int32) , mu_1 x1_2 x2_3 x3_4 < n_1 → I_1 x1_2 x2_3 x3_4 → em_G X D b0 cT ad 4 (SH ad) NC 0 0 M 6 [(0, .ref (ad (52))), (1, .int x1_2), (2, .int x2_3), (3, .int x3_4)] [] := by
    intro n_1
    induction n_1 with
    | zero => intro x1_2 x2_3 x3_4 h; exact absurd h (Nat.not_lt_zero _)
    | succ n_1 ih_1 =>
      intro x1_2 x2_3 x3_4 hn_1 hi
      have hw := hw x1_2 x2_3 x3_4 hi
      refine g_iload_n C 3 3 d_MD_isAtEnd_6 rfl rfl ?_
      refine g_bipush (v := (nI 12)) C d_MD_isAtEnd_7 (by decide) ?_
      refine g_icmp_ge (tgt := 64) C d_MD_isAtEnd_9 (by decide) (fun hc_5 => ?_) (fun hc_5 => ?_)
      · have hw := hw.1 hc_5
        refine g_iload_n C 1 1 d_MD_isAtEnd_64 rfl rfl ?_
        refine g_if_eq (tgt := 72) C d_MD_isAtEnd_65 (by decide) (fun hc_6 => ?_) (fun hc_6 => ?_)
        · have hw := hw.1 hc_6
          refine g_iconst (v := (nI 1)) C d_MD_isAtEnd_72 (by decide) ?_
          refine g_goto (tgt := 77) C d_MD_isAtEnd_73 (by decide) ?_
          exact g_zret C hQ rfl rfl d_MD_isAtEnd_77 ⟨rfl, hw⟩
        · have hw := hw.2 hc_6
          refine g_iload_n C 2 2 d_MD_isAtEnd_68 rfl rfl ?_
          refine g_if_eq (tgt := 76) C d_MD_isAtEnd_69 (by decide) (fun hc_7 => ?_) (fun hc_7 => ?_)
          · have hw := hw.1 hc_7
            refine g_iconst (v := (nI 0)) C d_MD_isAtEnd_76 (by decide) ?_
            exact g_zret C hQ rfl rfl d_MD_isAtEnd_77 ⟨rfl, hw⟩
          · have hw := hw.2 hc_7
            refine g_iconst (v := (nI 1)) C d_MD_isAtEnd_72 (by decide) ?_
            refine g_goto (tgt := 77) C d_MD_isAtEnd_73 (by decide) ?_
            exact g_zret C hQ rfl rfl d_MD_isAtEnd_77 ⟨rfl, hw⟩
      · have hw := hw.2 hc_5
        refine g_iload_n C 1 1 d_MD_isAtEnd_12 rfl rfl ?_
        obtain ⟨J_8, hJ_8, hw⟩ := em_jn1 hw
        have j_8 : ∀ (z_13 : Int32) , J_8 z_13 → em_G X D b0 cT ad 4 (SH ad) NC 0 0 M 29 [(0, .ref (ad (52))), (1, .int x1_2), (2, .int x2_3), (3, .int x3_4)] [.int z_13] := by
          intro z_13 hw
          have hw := hJ_8 z_13 hw
          refine g_istore_n (lv' := [(1, .int z_13), (0, .ref (ad (52))), (2, .int x2_3), (3, .int x3_4)]) C 1 d_MD_isAtEnd_29 rfl (by decide) rfl ?_
          refine g_iload_n C 2 2 d_MD_isAtEnd_30 rfl rfl ?_
          obtain ⟨J_14, hJ_14, hw⟩ := em_jn1 hw
          have j_14 : ∀ (z_21 : Int32) , J_14 z_21 → em_G X D b0 cT ad 4 (SH ad) NC 0 0 M 57 [(0, .ref (ad (52))), (1, .int z_13), (2, .int x2_3), (3, .int x3_4)] [.int z_21] := by
            intro z_21 hw
            have hw := hJ_14 z_21 hw
            refine g_istore_n (lv' := [(2, .int z_21), (0, .ref (ad (52))), (1, .int z_13), (3, .int x3_4)]) C 2 d_MD_isAtEnd_57 rfl (by decide) rfl ?_
            obtain ⟨x3_22, ex3_22⟩ : ∃ y : Int32, y = x3_4 + nI 1 := ⟨_, rfl⟩
            have hw := hw x3_22 ex3_22
            refine g_iinc (v := x3_22) (lv' := [(3, .int x3_22), (2, .int z_21), (0, .ref (ad (52))), (1, .int z_13)]) C 3 d_MD_isAtEnd_58 rfl (by rw [ex3_22]; first | rfl | (congr 1)) (by decide) rfl ?_
            refine g_goto (tgt := 6) C d_MD_isAtEnd_61 (by decide) ?_
            refine g_sub [2, 3, 1, 0] rfl ?_
            exact ih_1 z_13 z_21 x3_22 (Nat.lt_of_lt_of_le hw.2 (Nat.le_of_lt_succ hn_1)) hw.1
          obtain ⟨J_23, hJ_23, hw⟩ := em_jn0 hw
          have j_23 : J_23 → em_G X D b0 cT ad 4 (SH ad) NC 0 0 M 52 [(0, .ref (ad (52))), (1, .int z_13), (2, .int x2_3), (3, .int x3_4)] [] := by
            intro  hw
            have hw := hJ_23  hw
            refine g_iconst (v := (nI 1)) C d_MD_isAtEnd_52 (by decide) ?_
            refine g_goto (tgt := 57) C d_MD_isAtEnd_53 (by decide) ?_
            refine g_sub [0, 1, 2, 3] rfl ?_
            exact j_14 (nI 1) hw
          refine g_if_ne (tgt := 52) C d_MD_isAtEnd_31 (by decide) (fun hc_30 => ?_) (fun hc_30 => ?_)
          · have hw := hw.1 hc_30
            refine g_sub [1, 0, 2, 3] rfl ?_
            exact j_23  hw
          · have hw := hw.2 hc_30
            refine g_aload_n C 1 0 d_MD_isAtEnd_34 rfl rfl ?_
            refine g_getr C 52 3 rfl d_MD_isAtEnd_35 em_nc_MD em_sh_MD rfl (by decide) rfl in_MD mw_402 rfl ?_
            refine g_iload_n C 3 3 d_MD_isAtEnd_38 rfl rfl ?_
            obtain ⟨hb_31, hw⟩ := hw
            refine g_iald C 55 rfl d_MD_isAtEnd_39 em_nc_mHow em_sh_mHow rfl hb_31 ?_
            refine g_iconst (v := (nI 2)) C d_MD_isAtEnd_40 (by decide) ?_
            obtain ⟨J_32, hJ_32, hw⟩ := em_jn0 hw
            have j_32 : J_32 → em_G X D b0 cT ad 4 (SH ad) NC 0 0 M 56 [(0, .ref (ad (52))), (1, .int z_13), (2, .int x2_3), (3, .int x3_4)] [] := by
              intro  hw
              have hw := hJ_32  hw
              refine g_iconst (v := (nI 0)) C d_MD_isAtEnd_56 (by decide) ?_
              refine g_sub [0, 1, 2, 3] rfl ?_
              exact j_14 (nI 0) hw
            refine g_icmp_ne (tgt := 56) C d_MD_isAtEnd_41 (by decide) (fun hc_37 => ?_) (fun hc_37 => ?_)
            · have hw := hw.1 hc_37
              refine g_sub [1, 0, 2, 3] rfl ?_
              exact j_32  hw
            · have hw := hw.2 hc_37
              refine g_aload_n C 1 0 d_MD_isAtEnd_44 rfl rfl ?_
              refine g_iload_n C 3 3 d_MD_isAtEnd_45 rfl rfl ?_
              refine g_callVi C 52 rfl [.int x3_4] [] (c_MD_isLine  hw) (em_cwV C 1 mw_523 mw_524 mw_51 mw_71 mw_525 rfl rfl (by decide +kernel) (by decide)) em_nc_MD em_sh_MD rfl rfl rfl (Nat.le_of_ble_eq_true rfl) d_MD_isAtEnd_46 (by decide) (fun r_39 M_38 hw => ?_)
              obtain ⟨rfl, hw⟩ := hw
              refine g_if_ne (tgt := 56) C d_MD_isAtEnd_49 (by decide) (fun hc_40 => ?_) (fun hc_40 => ?_)
              · have hw := hw.1 hc_40
                refine g_sub [1, 0, 2, 3] rfl ?_
                exact j_32  hw
              · have hw := hw.2 hc_40
                refine g_sub [1, 0, 2, 3] rfl ?_
                exact j_23  hw
        obtain ⟨J_41, hJ_41, hw⟩ := em_jn0 hw
        have j_41 : J_41 → em_G X D b0 cT ad 4 (SH ad) NC 0 0 M 24 [(0, .ref (ad (52))), (1, .int x1_2), (2, .int x2_3), (3, .int x3_4)] [] := by
          intro  hw
          have hw := hJ_41  hw
          refine g_iconst (v := (nI 1)) C d_MD_isAtEnd_24 (by decide) ?_
          refine g_goto (tgt := 29) C d_MD_isAtEnd_25 (by decide) ?_
          refine g_sub [0, 1, 2, 3] rfl ?_
          exact j_8 (nI 1) hw
        refine g_if_ne (tgt := 24) C d_MD_isAtEnd_13 (by decide) (fun hc_46 => ?_) (fun hc_46 => ?_)
        · have hw := hw.1 hc_46
          refine g_sub [0, 1, 2, 3] rfl ?_
          exact j_41  hw
        · have hw := hw.2 hc_46
          refine g_aload_n C 0 0 d_MD_isAtEnd_16 rfl rfl ?_
          refine g_iload_n C 3 3 d_MD_isAtEnd_17 rfl rfl ?_
          refine g_callVi C 52 rfl [.int x3_4] [] (c_MD_isLine  hw) (em_cwV C 1 mw_523 mw_524 mw_51 mw_71 mw_525 rfl rfl (by decide +kernel) (by decide)) em_nc_MD em_sh_MD rfl rfl rfl (Nat.le_of_ble_eq_true rfl) d_MD_isAtEnd_18 (by decide) (fun r_48 M_47 hw => ?_)
          obtain ⟨rfl, hw⟩ := hw
          refine g_if_eq (tgt := 28) C d_MD_isAtEnd_21 (by decide) (fun hc_49 => ?_) (fun hc_49 => ?_)
          · have hw := hw.1 hc_49
            refine g_iconst (v := (nI 0)) C d_MD_isAtEnd_28 (by decide) ?_
            refine g_sub [0, 1, 2, 3] rfl ?_
            exact j_8 (nI 0) hw
          · have hw := hw.2 hc_49
            refine g_sub [0, 1, 2, 3] rfl ?_
            exact j_41  hw
  exact lp_1 _ (nI 0) (nI 0) (nI 0) (Nat.lt_succ_self _) h0
theorem c_MD_isAtEnd {l : Launch} {D : va_G} {b0 : Nat} {cT : Nat → ClassId} {ad : Nat → Nat} {post : Int32 → Prop}  {M : em_M}  (hw : wp_MD_isAtEnd post  M) : Met l y_MD_isAtEnd (.code y_MD_isAtEnd b_MD_isAtEnd 4 (some .boolean) :: wAll) rm_MD_isAtEnd (va_Pc [.ref (ad (52))] (em_U D b0 cT ad (SH ad) NC M)) (va_Qi (fun r M1 => M = M1 ∧ post r) (em_U D b0 cT ad (SH ad) NC) (em_A b0)) 0 0 (em_A b0) :=
  em_met (by decide) rfl (Nat.le_of_ble_eq_true rfl) (fun X C _ _ hQ => v_MD_isAtEnd  C hQ hw)
set_option maxHeartbeats 4000000 in
set_option maxRecDepth 100000 in
theorem v_MD_pivot {X : em_X} {D : va_G} {b0 : Nat} {cT : Nat → ClassId} {ad : Nat → Nat} {post : Int32 → Prop} {x1 : Int32} {M : em_M}  (C : em_Cx X D b0 cT R_MD b_MD_pivot (some .int) 5 rm_MD_pivot) (hQ : xQ X = MQ (xB X) (va_Qi (fun r M1 => M = M1 ∧ post r) (em_U D b0 cT ad (SH ad) NC) (em_A b0)) (xA X) (xS X) 0 0 (em_A b0)) (hw : wp_MD_pivot post x1 M) : em_G X D b0 cT ad 5 (SH ad) NC 0 0 M 0 [(0, .ref (ad (52))), (1, .int x1)] [] := by
  unfold wp_MD_pivot at hw
  refine g_iconst (v := (nI 0)) C d_MD_pivot_0 (by decide) ?_
  refine g_istore_n (lv' := [(2, .int (nI 0)), (0, .ref (ad (52))), (1, .int x1)]) C 2 d_MD_pivot_1 rfl (by decide) rfl ?_
  refine g_iconst (v := (nI 0)) C d_MD_pivot_2 (by decide) ?_
  refine g_istore_n (lv' := [(3, .int (nI 0)), (2, .int (nI 0)), (0, .ref (ad (52))), (1, .int x1)]) C 3 d_MD_pivot_3 rfl (by decide) rfl ?_
  obtain ⟨I_1, mu_1, h0, hw⟩ := hw
  refine g_sub [2, 3, 1, 0] rfl ?_
  have lp_1 : ∀ (n_1 : Nat) (x2_2 : Int32) (x3_3 : Int32) , mu_1 x2_2 x3_3 < n_1 → I_1 x2_2 x3_3 → em_G X D b0 cT ad 5 (SH ad) NC 0 0 M 4 [(0, .ref (ad (52))), (1, .int x1), (2, .int x2_2), (3, .int x3_3)] [] := by
    intro n_1
    induction n_1 with
    | zero => intro x2_2 x3_3 h; exact absurd h (Nat.not_lt_zero _)
    | succ n_1 ih_1 =>
      intro x2_2 x3_3 hn_1 hi
      have hw := hw x2_2 x3_3 hi
      refine g_iload_n C 3 3 d_MD_pivot_4 rfl rfl ?_
      refine g_sipush (v := (nI 512)) C d_MD_pivot_5 (by decide) ?_
      refine g_icmp_ge (tgt := 80) C d_MD_pivot_8 (by decide) (fun hc_4 => ?_) (fun hc_4 => ?_)
      · have hw := hw.1 hc_4
        refine g_sipush (v := (nI 512)) C d_MD_pivot_80 (by decide) ?_
        exact g_iret C hQ rfl d_MD_pivot_83 ⟨rfl, hw⟩
      · have hw := hw.2 hc_4
        refine g_iconst (v := (nI 0)) C d_MD_pivot_11 (by decide) ?_
        refine g_istore (lv' := [(4, .int (nI 0)), (0, .ref (ad (52))), (1, .int x1), (2, .int x2_2), (3, .int x3_3)]) C d_MD_pivot_12 (by decide) rfl ?_
        obtain ⟨I_5, mu_5, h0, hw⟩ := hw
        refine g_sub [1, 2, 3, 4, 0] rfl ?_
        have lp_5 : ∀ (n_5 : Nat) (x2_6 : Int32) (x4_7 : Int32) , mu_5 x2_6 x4_7 < n_5 → I_5 x2_6 x4_7 → em_G X D b0 cT ad 5 (SH ad) NC 0 0 M 14 [(0, .ref (ad (52))), (1, .int x1), (2, .int x2_6), (3, .int x3_3), (4, .int x4_7)] [] := by
          intro n_5
          induction n_5 with
          | zero => intro x2_6 x4_7 h; exact absurd h (Nat.not_lt_zero _)
          | succ n_5 ih_5 =>
            intro x2_6 x4_7 hn_5 hi
            have hw := hw x2_6 x4_7 hi
            refine g_iload C 4 d_MD_pivot_14 rfl ?_
            refine g_bipush (v := (nI 12)) C d_MD_pivot_16 (by decide) ?_
            refine g_icmp_ge (tgt := 74) C d_MD_pivot_18 (by decide) (fun hc_8 => ?_) (fun hc_8 => ?_)
            · have hw := hw.1 hc_8
              obtain ⟨x3_9, ex3_9⟩ : ∃ y : Int32, y = x3_3 + nI 1 := ⟨_, rfl⟩
              have hw := hw x3_9 ex3_9
              refine g_iinc (v := x3_9) (lv' := [(3, .int x3_9), (0, .ref (ad (52))), (1, .int x1), (2, .int x2_6), (4, .int x4_7)]) C 3 d_MD_pivot_74 rfl (by rw [ex3_9]; first | rfl | (congr 1)) (by decide) rfl ?_
              refine g_goto (tgt := 4) C d_MD_pivot_77 (by decide) ?_
              refine g_sub [1, 2, 3, 0] rfl ?_
              exact ih_1 x2_6 x3_9 (Nat.lt_of_lt_of_le hw.2 (Nat.le_of_lt_succ hn_1)) hw.1
            · have hw := hw.2 hc_8
              refine g_aload_n C 0 0 d_MD_pivot_21 rfl rfl ?_
              refine g_iload C 4 d_MD_pivot_22 rfl ?_
              refine g_callVi C 52 rfl [.int x4_7] [] (c_MD_isLine  hw) (em_cwV C 1 mw_523 mw_524 mw_51 mw_71 mw_525 rfl rfl (by decide +kernel) (by decide)) em_nc_MD em_sh_MD rfl rfl rfl (Nat.le_of_ble_eq_true rfl) d_MD_pivot_24 (by decide) (fun r_11 M_10 hw => ?_)
              obtain ⟨rfl, hw⟩ := hw
              obtain ⟨J_12, hJ_12, hw⟩ := em_jn1 hw
              have j_12 : ∀ (x2_20 : Int32) , J_12 x2_20 → em_G X D b0 cT ad 5 (SH ad) NC 0 0 M 68 [(0, .ref (ad (52))), (1, .int x1), (2, .int x2_20), (3, .int x3_3), (4, .int x4_7)] [] := by
                intro x2_20 hw
                have hw := hJ_12 x2_20 hw
                obtain ⟨x4_21, ex4_21⟩ : ∃ y : Int32, y = x4_7 + nI 1 := ⟨_, rfl⟩
                have hw := hw x4_21 ex4_21
                refine g_iinc (v := x4_21) (lv' := [(4, .int x4_21), (0, .ref (ad (52))), (1, .int x1), (2, .int x2_20), (3, .int x3_3)]) C 4 d_MD_pivot_68 rfl (by rw [ex4_21]; first | rfl | (congr 1)) (by decide) rfl ?_
                refine g_goto (tgt := 14) C d_MD_pivot_71 (by decide) ?_
                refine g_sub [1, 2, 3, 4, 0] rfl ?_
                exact ih_5 x2_20 x4_21 (Nat.lt_of_lt_of_le hw.2 (Nat.le_of_lt_succ hn_5)) hw.1
              refine g_if_eq (tgt := 68) C d_MD_pivot_27 (by decide) (fun hc_22 => ?_) (fun hc_22 => ?_)
              · have hw := hw.1 hc_22
                refine g_sub [0, 1, 2, 3, 4] rfl ?_
                exact j_12 x2_6 hw
              · have hw := hw.2 hc_22
                refine g_aload_n C 0 0 d_MD_pivot_30 rfl rfl ?_
                refine g_getr C 52 15 rfl d_MD_pivot_31 em_nc_MD em_sh_MD rfl (by decide) rfl in_MD mw_414 rfl ?_
                refine g_iload C 4 d_MD_pivot_34 rfl ?_
                obtain ⟨hb_23, hw⟩ := hw
                refine g_iald C 61 rfl d_MD_pivot_36 em_nc_mLine em_sh_mLine rfl hb_23 ?_
                refine g_iload_n C 3 3 d_MD_pivot_37 rfl rfl ?_
                refine g_icmp_ne (tgt := 68) C d_MD_pivot_38 (by decide) (fun hc_24 => ?_) (fun hc_24 => ?_)
                · have hw := hw.1 hc_24
                  refine g_sub [0, 1, 2, 3, 4] rfl ?_
                  exact j_12 x2_6 hw
                · have hw := hw.2 hc_24
                  refine g_iload_n C 2 2 d_MD_pivot_41 rfl rfl ?_
                  refine g_aload_n C 0 0 d_MD_pivot_42 rfl rfl ?_
                  refine g_getr C 52 4 rfl d_MD_pivot_43 em_nc_MD em_sh_MD rfl (by decide) rfl in_MD mw_403 rfl ?_
                  refine g_iload C 4 d_MD_pivot_46 rfl ?_
                  refine g_iald C 56 rfl d_MD_pivot_48 em_nc_mWeight em_sh_mWeight rfl hb_23 ?_
                  refine g_aload_n C 0 0 d_MD_pivot_49 rfl rfl ?_
                  refine g_iload C 4 d_MD_pivot_50 rfl ?_
                  refine g_iconst (v := (nI 0)) C d_MD_pivot_52 (by decide) ?_
                  refine g_bipush (v := (nI 120)) C d_MD_pivot_53 (by decide) ?_
                  refine g_callVi C 52 rfl [.int x4_7, .int (nI 0), .int (nI 120)] [.int (M (56) x4_7.toNatClampNeg), .int x2_6] (c_MD_topOf  hw) (em_cwV C 3 mw_474 mw_475 mw_44 mw_71 mw_476 rfl rfl (by decide +kernel) (by decide)) em_nc_MD em_sh_MD rfl rfl rfl (Nat.le_of_ble_eq_true rfl) d_MD_pivot_55 (by decide) (fun r_26 M_25 hw => ?_)
                  obtain ⟨rfl, hw⟩ := hw
                  refine g_imul C d_MD_pivot_58 ?_
                  refine g_iadd C d_MD_pivot_59 ?_
                  refine g_topi (fun x2_27 ex2_27 => ?_)
                  have hw := hw x2_27 ex2_27
                  refine g_istore_n (lv' := [(2, .int x2_27), (0, .ref (ad (52))), (1, .int x1), (3, .int x3_3), (4, .int x4_7)]) C 2 d_MD_pivot_60 rfl (by decide) rfl ?_
                  refine g_iload_n C 0 2 d_MD_pivot_61 rfl rfl ?_
                  refine g_iload_n C 2 1 d_MD_pivot_62 rfl rfl ?_
                  refine g_icmp_le (tgt := 68) C d_MD_pivot_63 (by decide) (fun hc_28 => ?_) (fun hc_28 => ?_)
                  · have hw := hw.1 hc_28
                    refine g_sub [1, 2, 0, 3, 4] rfl ?_
                    exact j_12 x2_27 hw
                  · have hw := hw.2 hc_28
                    refine g_iload_n C 3 3 d_MD_pivot_66 rfl rfl ?_
                    exact g_iret C hQ rfl d_MD_pivot_67 ⟨rfl, hw⟩
        exact lp_5 _ x2_2 (nI 0) (Nat.lt_succ_self _) h0
  exact lp_1 _ (nI 0) (nI 0) (Nat.lt_succ_self _) h0
theorem c_MD_pivot {l : Launch} {D : va_G} {b0 : Nat} {cT : Nat → ClassId} {ad : Nat → Nat} {post : Int32 → Prop} {x1 : Int32} {M : em_M}  (hw : wp_MD_pivot post x1 M) : Met l y_MD_pivot (.code y_MD_pivot b_MD_pivot 5 (some .int) :: wAll) rm_MD_pivot (va_Pc [.ref (ad (52)), .int x1] (em_U D b0 cT ad (SH ad) NC M)) (va_Qi (fun r M1 => M = M1 ∧ post r) (em_U D b0 cT ad (SH ad) NC) (em_A b0)) 0 0 (em_A b0) :=
  em_met (by decide) rfl (Nat.le_of_ble_eq_true rfl) (fun X C _ _ hQ => v_MD_pivot  C hQ hw)
