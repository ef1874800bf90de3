/-! THE WALKS, written by wip/gen -/
set_option maxHeartbeats 4000000 in
set_option maxRecDepth 100000 in
theorem v_RK_begin {X : em_X} {D : va_G} {b0 : Nat} {cT : Nat → ClassId} {ad : Nat → Nat} {post : em_M → Prop} {x1 : Int32} {M : em_M}  (C : em_Cx X D b0 cT R_RK b_RK_begin none 2 rm_RK_begin) (hQ : xQ X = MQ (xB X) (va_Qv post (em_U D b0 cT ad (SH ad) NC) (em_A b0)) (xA X) (xS X) 0 0 (em_A b0)) (hw : wp_RK_begin post x1 M) : em_G X D b0 cT ad 2 (SH ad) NC 0 0 M 0 [(0, .ref (ad (43))), (1, .int x1)] [] := by
  unfold wp_RK_begin at hw
  refine g_aload_n C 0 0 d_RK_begin_0 rfl rfl ?_
  refine g_iconst (v := (nI 0)) C d_RK_begin_1 (by decide) ?_
  refine g_puti C 43 4 rfl ty_RK tyok_RK nm_RK d_RK_begin_2 em_nc_RK em_sh_RK rfl (by decide) rfl in_RK mw_131 rfl rfl rfl rfl rfl ?_
  refine g_nameM (fun M_1 eM_1 => ?_)
  have hw := hw M_1 eM_1
  refine g_aload_n C 0 0 d_RK_begin_5 rfl rfl ?_
  refine g_iload_n C 1 1 d_RK_begin_6 rfl rfl ?_
  refine g_bipush (v := (nI 20)) C d_RK_begin_7 (by decide) ?_
  refine g_mmin C d_RK_begin_9 mw_292 mw_248 mw_73 mw_249 (by decide) (Nat.le_of_ble_eq_true rfl) (by decide) (by decide) ?_
  refine g_puti C 43 5 rfl ty_RK tyok_RK nm_RK d_RK_begin_12 em_nc_RK em_sh_RK rfl (by decide) rfl in_RK mw_132 rfl rfl rfl rfl rfl ?_
  refine g_nameM (fun M_2 eM_2 => ?_)
  have hw := hw M_2 eM_2
  exact g_vret C hQ rfl d_RK_begin_15 hw
theorem c_RK_begin {l : Launch} {D : va_G} {b0 : Nat} {cT : Nat → ClassId} {ad : Nat → Nat} {post : em_M → Prop} {x1 : Int32} {M : em_M}  (hw : wp_RK_begin post x1 M) : Met l y_RK_begin (.code y_RK_begin b_RK_begin 2 none :: wAll) rm_RK_begin (va_Pc [.ref (ad (43)), .int x1] (em_U D b0 cT ad (SH ad) NC M)) (va_Qv post (em_U D b0 cT ad (SH ad) NC) (em_A b0)) 0 0 (em_A b0) :=
  em_met (by decide) rfl (Nat.le_of_ble_eq_true rfl) (fun X C _ _ hQ => v_RK_begin  C hQ hw)
set_option maxHeartbeats 4000000 in
set_option maxRecDepth 100000 in
theorem v_SF_has {X : em_X} {D : va_G} {b0 : Nat} {cT : Nat → ClassId} {ad : Nat → Nat} {post : Int32 → Prop} {x1 : Int32} {M : em_M}  (C : em_Cx X D b0 cT R_SF b_SF_has (some .boolean) 3 rm_SF_has) (hQ : xQ X = MQ (xB X) (va_Qi (fun r M1 => M = M1 ∧ post r) (em_U D b0 cT ad (SH ad) NC) (em_A b0)) (xA X) (xS X) 0 0 (em_A b0)) (hw : wp_SF_has post x1 M) : em_G X D b0 cT ad 3 (SH ad) NC 0 0 M 0 [(0, .ref (ad (1))), (1, .int x1)] [] := by
  unfold wp_SF_has at hw
  refine g_iconst (v := (nI 0)) C d_SF_has_0 (by decide) ?_
  refine g_istore_n (lv' := [(2, .int (nI 0)), (0, .ref (ad (1))), (1, .int x1)]) C 2 d_SF_has_1 rfl (by decide) rfl ?_
  obtain ⟨I_1, mu_1, h0, hw⟩ := hw
  refine g_sub [1, 2, 0] rfl ?_
  have lp_1 : ∀ (n_1 : Nat) (x2_2 : Int32) , mu_1 x2_2 < n_1 → I_1 x2_2 → em_G X D b0 cT ad 3 (SH ad) NC 0 0 M 2 [(0, .ref (ad (1))), (1, .int x1), (2, .int x2_2)] [] := by
    intro n_1
    induction n_1 with
    | zero => intro x2_2 h; exact absurd h (Nat.not_lt_zero _)
    | succ n_1 ih_1 =>
      intro x2_2 hn_1 hi
      have hw := hw x2_2 hi
      refine g_iload_n C 2 2 d_SF_has_2 rfl rfl ?_
      refine g_bipush (v := (nI 12)) C d_SF_has_3 (by decide) ?_
      refine g_icmp_ge (tgt := 30) C d_SF_has_5 (by decide) (fun hc_3 => ?_) (fun hc_3 => ?_)
      · have hw := hw.1 hc_3
        refine g_iconst (v := (nI 0)) C d_SF_has_30 (by decide) ?_
        exact g_zret C hQ rfl rfl d_SF_has_31 ⟨rfl, hw⟩
      · have hw := hw.2 hc_3
        refine g_aload_n C 0 0 d_SF_has_8 rfl rfl ?_
        refine g_getr C 1 0 rfl d_SF_has_9 em_nc_SF em_sh_SF rfl (by decide) rfl in_SF mw_99 rfl ?_
        refine g_iload_n C 2 2 d_SF_has_12 rfl rfl ?_
        obtain ⟨hb_4, hw⟩ := hw
        refine g_aald C 2 rfl d_SF_has_13 em_nc_lists em_sh_lists rfl hb_4 rfl ?_
        refine g_getrN C (4 + 3 * x2_2.toNatClampNeg) 1 rfl d_SF_has_14 (em_nc_SL (em_pos hb_4)) (em_sh_SL (em_pos hb_4)) rfl (by decide) rfl in_SL mn_0 rfl ?_
        refine g_iload_n C 1 1 d_SF_has_17 rfl rfl ?_
        obtain ⟨hb_5, hw⟩ := hw
        refine g_iald C (6 + 3 * x2_2.toNatClampNeg) rfl d_SF_has_18 (em_nc_SLs (em_pos hb_4)) (em_sh_SLs (em_pos hb_4)) rfl hb_5 ?_
        refine g_if_le (tgt := 24) C d_SF_has_19 (by decide) (fun hc_6 => ?_) (fun hc_6 => ?_)
        · have hw := hw.1 hc_6
          obtain ⟨x2_7, ex2_7⟩ : ∃ y : Int32, y = x2_2 + nI 1 := ⟨_, rfl⟩
          have hw := hw x2_7 ex2_7
          refine g_iinc (v := x2_7) (lv' := [(2, .int x2_7), (0, .ref (ad (1))), (1, .int x1)]) C 2 d_SF_has_24 rfl (by rw [ex2_7]; first | rfl | (congr 1)) (by decide) rfl ?_
          refine g_goto (tgt := 2) C d_SF_has_27 (by decide) ?_
          refine g_sub [1, 2, 0] rfl ?_
          exact ih_1 x2_7 (Nat.lt_of_lt_of_le hw.2 (Nat.le_of_lt_succ hn_1)) hw.1
        · have hw := hw.2 hc_6
          refine g_iconst (v := (nI 1)) C d_SF_has_22 (by decide) ?_
          exact g_zret C hQ rfl rfl d_SF_has_23 ⟨rfl, hw⟩
  exact lp_1 _ (nI 0) (Nat.lt_succ_self _) h0
theorem c_SF_has {l : Launch} {D : va_G} {b0 : Nat} {cT : Nat → ClassId} {ad : Nat → Nat} {post : Int32 → Prop} {x1 : Int32} {M : em_M}  (hw : wp_SF_has post x1 M) : Met l y_SF_has (.code y_SF_has b_SF_has 3 (some .boolean) :: wAll) rm_SF_has (va_Pc [.ref (ad (1)), .int x1] (em_U D b0 cT ad (SH ad) NC M)) (va_Qi (fun r M1 => M = M1 ∧ post r) (em_U D b0 cT ad (SH ad) NC) (em_A b0)) 0 0 (em_A b0) :=
  em_met (by decide) rfl (Nat.le_of_ble_eq_true rfl) (fun X C _ _ hQ => v_SF_has  C hQ hw)
set_option maxHeartbeats 4000000 in
set_option maxRecDepth 100000 in
theorem v_SF_greatestKeyBetween {X : em_X} {D : va_G} {b0 : Nat} {cT : Nat → ClassId} {ad : Nat → Nat} {post : Int32 → Prop} {x1 : Int32} {x2 : Int32} {M : em_M}  (C : em_Cx X D b0 cT R_SF b_SF_greatestKeyBetween (some .int) 5 rm_SF_greatestKeyBetween) (hQ : xQ X = MQ (xB X) (va_Qi (fun r M1 => M = M1 ∧ post r) (em_U D b0 cT ad (SH ad) NC) (em_A b0)) (xA X) (xS X) 0 0 (em_A b0)) (hw : wp_SF_greatestKeyBetween post x1 x2 M) : em_G X D b0 cT ad 5 (SH ad) NC 0 0 M 0 [(0, .ref (ad (1))), (1, .int x1), (2, .int x2)] [] := by
  unfold wp_SF_greatestKeyBetween at hw
  refine g_sipush (v := (-1001 : Int32)) C d_SF_greatestKeyBetween_0 (by decide) ?_
  refine g_istore_n (lv' := [(3, .int (-1001 : Int32)), (0, .ref (ad (1))), (1, .int x1), (2, .int x2)]) C 3 d_SF_greatestKeyBetween_3 rfl (by decide) rfl ?_
  refine g_iload_n C 2 1 d_SF_greatestKeyBetween_4 rfl rfl ?_
  refine g_istore (lv' := [(4, .int x1), (3, .int (-1001 : Int32)), (0, .ref (ad (1))), (1, .int x1), (2, .int x2)]) C d_SF_greatestKeyBetween_5 (by decide) rfl ?_
  obtain ⟨I_1, mu_1, h0, hw⟩ := hw
  refine g_sub [2, 3, 4, 1, 0] rfl ?_
  have lp_1 : ∀ (n_1 : Nat) (x3_2 : Int32) (x4_3 : Int32) , mu_1 x3_2 x4_3 < n_1 → I_1 x3_2 x4_3 → em_G X D b0 cT ad 5 (SH ad) NC 0 0 M 7 [(0, .ref (ad (1))), (1, .int x1), (2, .int x2), (3, .int x3_2), (4, .int x4_3)] [] := by
    intro n_1
    induction n_1 with
    | zero => intro x3_2 x4_3 h; exact absurd h (Nat.not_lt_zero _)
    | succ n_1 ih_1 =>
      intro x3_2 x4_3 hn_1 hi
      have hw := hw x3_2 x4_3 hi
      refine g_iload C 4 d_SF_greatestKeyBetween_7 rfl ?_
      refine g_iload_n C 2 2 d_SF_greatestKeyBetween_9 rfl rfl ?_
      refine g_icmp_ge (tgt := 47) C d_SF_greatestKeyBetween_10 (by decide) (fun hc_4 => ?_) (fun hc_4 => ?_)
      · have hw := hw.1 hc_4
        refine g_iload_n C 3 3 d_SF_greatestKeyBetween_47 rfl rfl ?_
        exact g_iret C hQ rfl d_SF_greatestKeyBetween_48 ⟨rfl, hw⟩
      · have hw := hw.2 hc_4
        refine g_aload_n C 0 0 d_SF_greatestKeyBetween_13 rfl rfl ?_
        refine g_getr C 1 1 rfl d_SF_greatestKeyBetween_14 em_nc_SF em_sh_SF rfl (by decide) rfl in_SF mw_100 rfl ?_
        refine g_iload C 4 d_SF_greatestKeyBetween_17 rfl ?_
        obtain ⟨hb_5, hw⟩ := hw
        refine g_iald C 3 rfl d_SF_greatestKeyBetween_19 em_nc_keyOf em_sh_keyOf rfl hb_5 ?_
        refine g_iload_n C 3 3 d_SF_greatestKeyBetween_20 rfl rfl ?_
        obtain ⟨J_6, hJ_6, hw⟩ := em_jn1 hw
        have j_6 : ∀ (x3_12 : Int32) , J_6 x3_12 → em_G X D b0 cT ad 5 (SH ad) NC 0 0 M 41 [(0, .ref (ad (1))), (1, .int x1), (2, .int x2), (3, .int x3_12), (4, .int x4_3)] [] := by
          intro x3_12 hw
          have hw := hJ_6 x3_12 hw
          obtain ⟨x4_13, ex4_13⟩ : ∃ y : Int32, y = x4_3 + nI 1 := ⟨_, rfl⟩
          have hw := hw x4_13 ex4_13
          refine g_iinc (v := x4_13) (lv' := [(4, .int x4_13), (0, .ref (ad (1))), (1, .int x1), (2, .int x2), (3, .int x3_12)]) C 4 d_SF_greatestKeyBetween_41 rfl (by rw [ex4_13]; first | rfl | (congr 1)) (by decide) rfl ?_
          refine g_goto (tgt := 7) C d_SF_greatestKeyBetween_44 (by decide) ?_
          refine g_sub [1, 2, 3, 4, 0] rfl ?_
          exact ih_1 x3_12 x4_13 (Nat.lt_of_lt_of_le hw.2 (Nat.le_of_lt_succ hn_1)) hw.1
        refine g_icmp_le (tgt := 41) C d_SF_greatestKeyBetween_21 (by decide) (fun hc_14 => ?_) (fun hc_14 => ?_)
        · have hw := hw.1 hc_14
          refine g_sub [0, 1, 2, 3, 4] rfl ?_
          exact j_6 x3_2 hw
        · have hw := hw.2 hc_14
          refine g_aload_n C 0 0 d_SF_greatestKeyBetween_24 rfl rfl ?_
          refine g_iload C 4 d_SF_greatestKeyBetween_25 rfl ?_
          refine g_callVi C 1 rfl [.int x4_3] [] (c_SF_has  hw) (em_cwV C 1 mw_365 mw_366 mw_37 mw_65 mw_367 rfl rfl (by decide +kernel) (by decide)) em_nc_SF em_sh_SF rfl rfl rfl (Nat.le_of_ble_eq_true rfl) d_SF_greatestKeyBetween_27 (by decide) (fun r_16 M_15 hw => ?_)
          obtain ⟨rfl, hw⟩ := hw
          refine g_if_eq (tgt := 41) C d_SF_greatestKeyBetween_30 (by decide) (fun hc_17 => ?_) (fun hc_17 => ?_)
          · have hw := hw.1 hc_17
            refine g_sub [0, 1, 2, 3, 4] rfl ?_
            exact j_6 x3_2 hw
          · have hw := hw.2 hc_17
            refine g_aload_n C 0 0 d_SF_greatestKeyBetween_33 rfl rfl ?_
            refine g_getr C 1 1 rfl d_SF_greatestKeyBetween_34 em_nc_SF em_sh_SF rfl (by decide) rfl in_SF mw_100 rfl ?_
            refine g_iload C 4 d_SF_greatestKeyBetween_37 rfl ?_
            refine g_iald C 3 rfl d_SF_greatestKeyBetween_39 em_nc_keyOf em_sh_keyOf rfl hb_5 ?_
            refine g_topi (fun x3_18 ex3_18 => ?_)
            have hw := hw x3_18 ex3_18
            refine g_istore_n (lv' := [(3, .int x3_18), (0, .ref (ad (1))), (1, .int x1), (2, .int x2), (4, .int x4_3)]) C 3 d_SF_greatestKeyBetween_40 rfl (by decide) rfl ?_
            refine g_sub [1, 2, 3, 0, 4] rfl ?_
            exact j_6 x3_18 hw
  exact lp_1 _ (-1001 : Int32) x1 (Nat.lt_succ_self _) h0
theorem c_SF_greatestKeyBetween {l : Launch} {D : va_G} {b0 : Nat} {cT : Nat → ClassId} {ad : Nat → Nat} {post : Int32 → Prop} {x1 : Int32} {x2 : Int32} {M : em_M}  (hw : wp_SF_greatestKeyBetween post x1 x2 M) : Met l y_SF_greatestKeyBetween (.code y_SF_greatestKeyBetween b_SF_greatestKeyBetween 5 (some .int) :: wAll) rm_SF_greatestKeyBetween (va_Pc [.ref (ad (1)), .int x1, .int x2] (em_U D b0 cT ad (SH ad) NC M)) (va_Qi (fun r M1 => M = M1 ∧ post r) (em_U D b0 cT ad (SH ad) NC) (em_A b0)) 0 0 (em_A b0) :=
  em_met (by decide) rfl (Nat.le_of_ble_eq_true rfl) (fun X C _ _ hQ => v_SF_greatestKeyBetween  C hQ hw)
set_option maxHeartbeats 4000000 in
set_option maxRecDepth 100000 in
theorem v_RK_isFull {X : em_X} {D : va_G} {b0 : Nat} {cT : Nat → ClassId} {ad : Nat → Nat} {post : Int32 → Prop}  {M : em_M}  (C : em_Cx X D b0 cT R_RK b_RK_isFull (some .boolean) 1 rm_RK_isFull) (hQ : xQ X = MQ (xB X) (va_Qi (fun r M1 => M = M1 ∧ post r) (em_U D b0 cT ad (SH ad) NC) (em_A b0)) (xA X) (xS X) 0 0 (em_A b0)) (hw : wp_RK_isFull post  M) : em_G X D b0 cT ad 1 (SH ad) NC 0 0 M 0 [(0, .ref (ad (43)))] [] := by
  unfold wp_RK_isFull at hw
  refine g_aload_n C 0 0 d_RK_isFull_0 rfl rfl ?_
  refine g_geti C 43 4 rfl d_RK_isFull_1 em_nc_RK em_sh_RK rfl (by decide) rfl in_RK mw_131 rfl ?_
  refine g_aload_n C 0 0 d_RK_isFull_4 rfl rfl ?_
  refine g_geti C 43 5 rfl d_RK_isFull_5 em_nc_RK em_sh_RK rfl (by decide) rfl in_RK mw_132 rfl ?_
  refine g_icmp_lt (tgt := 15) C d_RK_isFull_8 (by decide) (fun hc_1 => ?_) (fun hc_1 => ?_)
  · have hw := hw.1 hc_1
    refine g_iconst (v := (nI 0)) C d_RK_isFull_15 (by decide) ?_
    exact g_zret C hQ rfl rfl d_RK_isFull_16 ⟨rfl, hw⟩
  · have hw := hw.2 hc_1
    refine g_iconst (v := (nI 1)) C d_RK_isFull_11 (by decide) ?_
    refine g_goto (tgt := 16) C d_RK_isFull_12 (by decide) ?_
    exact g_zret C hQ rfl rfl d_RK_isFull_16 ⟨rfl, hw⟩
theorem c_RK_isFull {l : Launch} {D : va_G} {b0 : Nat} {cT : Nat → ClassId} {ad : Nat → Nat} {post : Int32 → Prop}  {M : em_M}  (hw : wp_RK_isFull post  M) : Met l y_RK_isFull (.code y_RK_isFull b_RK_isFull 1 (some .boolean) :: wAll) rm_RK_isFull (va_Pc [.ref (ad (43))] (em_U D b0 cT ad (SH ad) NC M)) (va_Qi (fun r M1 => M = M1 ∧ post r) (em_U D b0 cT ad (SH ad) NC) (em_A b0)) 0 0 (em_A b0) :=
  em_met (by decide) rfl (Nat.le_of_ble_eq_true rfl) (fun X C _ _ hQ => v_RK_isFull  C hQ hw)
set_option maxHeartbeats 4000000 in
set_option maxRecDepth 100000 in
theorem v_RK_leastNumber {X : em_X} {D : va_G} {b0 : Nat} {cT : Nat → ClassId} {ad : Nat → Nat} {post : Int32 → Prop}  {M : em_M}  (C : em_Cx X D b0 cT R_RK b_RK_leastNumber (some .int) 1 rm_RK_leastNumber) (hQ : xQ X = MQ (xB X) (va_Qi (fun r M1 => M = M1 ∧ post r) (em_U D b0 cT ad (SH ad) NC) (em_A b0)) (xA X) (xS X) 0 0 (em_A b0)) (hw : wp_RK_leastNumber post  M) : em_G X D b0 cT ad 1 (SH ad) NC 0 0 M 0 [(0, .ref (ad (43)))] [] := by
  unfold wp_RK_leastNumber at hw
  refine g_aload_n C 0 0 d_RK_leastNumber_0 rfl rfl ?_
  refine g_geti C 43 4 rfl d_RK_leastNumber_1 em_nc_RK em_sh_RK rfl (by decide) rfl in_RK mw_131 rfl ?_
  refine g_if_le (tgt := 21) C d_RK_leastNumber_4 (by decide) (fun hc_1 => ?_) (fun hc_1 => ?_)
  · have hw := hw.1 hc_1
    refine g_iconst (v := (nI 0)) C d_RK_leastNumber_21 (by decide) ?_
    exact g_iret C hQ rfl d_RK_leastNumber_22 ⟨rfl, hw⟩
  · have hw := hw.2 hc_1
    refine g_aload_n C 0 0 d_RK_leastNumber_7 rfl rfl ?_
    refine g_getr C 43 1 rfl d_RK_leastNumber_8 em_nc_RK em_sh_RK rfl (by decide) rfl in_RK mw_128 rfl ?_
    refine g_aload_n C 0 0 d_RK_leastNumber_11 rfl rfl ?_
    refine g_geti C 43 4 rfl d_RK_leastNumber_12 em_nc_RK em_sh_RK rfl (by decide) rfl in_RK mw_131 rfl ?_
    refine g_iconst (v := (nI 1)) C d_RK_leastNumber_15 (by decide) ?_
    refine g_isub C d_RK_leastNumber_16 ?_
    obtain ⟨hb_2, hw⟩ := hw
    refine g_iald C 45 rfl d_RK_leastNumber_17 em_nc_rNum em_sh_rNum rfl hb_2 ?_
    refine g_goto (tgt := 22) C d_RK_leastNumber_18 (by decide) ?_
    exact g_iret C hQ rfl d_RK_leastNumber_22 ⟨rfl, hw⟩
theorem c_RK_leastNumber {l : Launch} {D : va_G} {b0 : Nat} {cT : Nat → ClassId} {ad : Nat → Nat} {post : Int32 → Prop}  {M : em_M}  (hw : wp_RK_leastNumber post  M) : Met l y_RK_leastNumber (.code y_RK_leastNumber b_RK_leastNumber 1 (some .int) :: wAll) rm_RK_leastNumber (va_Pc [.ref (ad (43))] (em_U D b0 cT ad (SH ad) NC M)) (va_Qi (fun r M1 => M = M1 ∧ post r) (em_U D b0 cT ad (SH ad) NC) (em_A b0)) 0 0 (em_A b0) :=
  em_met (by decide) rfl (Nat.le_of_ble_eq_true rfl) (fun X C _ _ hQ => v_RK_leastNumber  C hQ hw)
set_option maxHeartbeats 4000000 in
set_option maxRecDepth 100000 in
theorem v_QU_asksFor {X : em_X} {D : va_G} {b0 : Nat} {cT : Nat → ClassId} {ad : Nat → Nat} {post : Int32 → Prop} {x1 : Int32} {M : em_M}  (C : em_Cx X D b0 cT R_QU b_QU_asksFor (some .boolean) 2 rm_QU_asksFor) (hQ : xQ X = MQ (xB X) (va_Qi (fun r M1 => M = M1 ∧ post r) (em_U D b0 cT ad (SH ad) NC) (em_A b0)) (xA X) (xS X) 0 0 (em_A b0)) (hw : wp_QU_asksFor post x1 M) : em_G X D b0 cT ad 2 (SH ad) NC 0 0 M 0 [(0, .ref (ad (40))), (1, .int x1)] [] := by
  unfold wp_QU_asksFor at hw
  refine g_aload_n C 0 0 d_QU_asksFor_0 rfl rfl ?_
  refine g_getr C 40 1 rfl d_QU_asksFor_1 em_nc_QU em_sh_QU rfl (by decide) rfl in_QU mw_109 rfl ?_
  refine g_iload_n C 1 1 d_QU_asksFor_4 rfl rfl ?_
  obtain ⟨hb_1, hw⟩ := hw
  refine g_iald C 41 rfl d_QU_asksFor_5 em_nc_sorts em_sh_sorts rfl hb_1 ?_
  refine g_iconst (v := (nI 1)) C d_QU_asksFor_6 (by decide) ?_
  refine g_icmp_eq (tgt := 20) C d_QU_asksFor_7 (by decide) (fun hc_2 => ?_) (fun hc_2 => ?_)
  · have hw := hw.1 hc_2
    refine g_iconst (v := (nI 1)) C d_QU_asksFor_20 (by decide) ?_
    refine g_goto (tgt := 25) C d_QU_asksFor_21 (by decide) ?_
    exact g_zret C hQ rfl rfl d_QU_asksFor_25 ⟨rfl, hw⟩
  · have hw := hw.2 hc_2
    refine g_aload_n C 0 0 d_QU_asksFor_10 rfl rfl ?_
    refine g_getr C 40 1 rfl d_QU_asksFor_11 em_nc_QU em_sh_QU rfl (by decide) rfl in_QU mw_109 rfl ?_
    refine g_iload_n C 1 1 d_QU_asksFor_14 rfl rfl ?_
    refine g_iald C 41 rfl d_QU_asksFor_15 em_nc_sorts em_sh_sorts rfl hb_1 ?_
    refine g_iconst (v := (nI 2)) C d_QU_asksFor_16 (by decide) ?_
    refine g_icmp_ne (tgt := 24) C d_QU_asksFor_17 (by decide) (fun hc_3 => ?_) (fun hc_3 => ?_)
    · have hw := hw.1 hc_3
      refine g_iconst (v := (nI 0)) C d_QU_asksFor_24 (by decide) ?_
      exact g_zret C hQ rfl rfl d_QU_asksFor_25 ⟨rfl, hw⟩
    · have hw := hw.2 hc_3
      refine g_iconst (v := (nI 1)) C d_QU_asksFor_20 (by decide) ?_
      refine g_goto (tgt := 25) C d_QU_asksFor_21 (by decide) ?_
      exact g_zret C hQ rfl rfl d_QU_asksFor_25 ⟨rfl, hw⟩
theorem c_QU_asksFor {l : Launch} {D : va_G} {b0 : Nat} {cT : Nat → ClassId} {ad : Nat → Nat} {post : Int32 → Prop} {x1 : Int32} {M : em_M}  (hw : wp_QU_asksFor post x1 M) : Met l y_QU_asksFor (.code y_QU_asksFor b_QU_asksFor 2 (some .boolean) :: wAll) rm_QU_asksFor (va_Pc [.ref (ad (40)), .int x1] (em_U D b0 cT ad (SH ad) NC M)) (va_Qi (fun r M1 => M = M1 ∧ post r) (em_U D b0 cT ad (SH ad) NC) (em_A b0)) 0 0 (em_A b0) :=
  em_met (by decide) rfl (Nat.le_of_ble_eq_true rfl) (fun X C _ _ hQ => v_QU_asksFor  C hQ hw)
set_option maxHeartbeats 4000000 in
set_option maxRecDepth 100000 in
theorem v_QU_admits {X : em_X} {D : va_G} {b0 : Nat} {cT : Nat → ClassId} {ad : Nat → Nat} {post : Int32 → Prop} {x1 : Int32} {M : em_M}  (C : em_Cx X D b0 cT R_QU b_QU_admits (some .boolean) 5 rm_QU_admits) (hQ : xQ X = MQ (xB X) (va_Qi (fun r M1 => M = M1 ∧ post r) (em_U D b0 cT ad (SH ad) NC) (em_A b0)) (xA X) (xS X) 0 0 (em_A b0)) (hw : wp_QU_admits post x1 M) : em_G X D b0 cT ad 5 (SH ad) NC 0 0 M 0 [(0, .ref (ad (40))), (1, .int x1)] [] := by
  unfold wp_QU_admits at hw
  refine g_iconst (v := (nI 0)) C d_QU_admits_0 (by decide) ?_
  refine g_istore_n (lv' := [(2, .int (nI 0)), (0, .ref (ad (40))), (1, .int x1)]) C 2 d_QU_admits_1 rfl (by decide) rfl ?_
  refine g_iconst (v := (nI 0)) C d_QU_admits_2 (by decide) ?_
  refine g_istore_n (lv' := [(3, .int (nI 0)), (2, .int (nI 0)), (0, .ref (ad (40))), (1, .int x1)]) C 3 d_QU_admits_3 rfl (by decide) rfl ?_
  obtain ⟨I_1, mu_1, h0, hw⟩ := hw
  refine g_sub [2, 3, 1, 0] rfl ?_
  have lp_1 : ∀ (n_1 : Nat) (x2_2 : Int32) (x3_3 : Int32) , mu_1 x2_2 x3_3 < n_1 → I_1 x2_2 x3_3 → em_G X D b0 cT ad 5 (SH ad) NC 0 0 M 4 [(0, .ref (ad (40))), (1, .int x1), (2, .int x2_2), (3, .int x3_3)] [] := by
    intro n_1
    induction n_1 with
    | zero => intro x2_2 x3_3 h; exact absurd h (Nat.not_lt_zero _)
    | succ n_1 ih_1 =>
      intro x2_2 x3_3 hn_1 hi
      have hw := hw x2_2 x3_3 hi
      refine g_iload_n C 3 3 d_QU_admits_4 rfl rfl ?_
      refine g_bipush (v := (nI 12)) C d_QU_admits_5 (by decide) ?_
      refine g_icmp_ge (tgt := 93) C d_QU_admits_7 (by decide) (fun hc_4 => ?_) (fun hc_4 => ?_)
      · have hw := hw.1 hc_4
        refine g_iload_n C 2 2 d_QU_admits_93 rfl rfl ?_
        obtain ⟨hz_5, hw⟩ := hw
        exact g_zret C hQ rfl (em_bn hz_5) d_QU_admits_94 ⟨rfl, hw⟩
      · have hw := hw.2 hc_4
        refine g_aload_n C 0 0 d_QU_admits_10 rfl rfl ?_
        refine g_getr C 40 0 rfl d_QU_admits_11 em_nc_QU em_sh_QU rfl (by decide) rfl in_QU mw_108 rfl ?_
        refine g_getrN C 1 0 rfl d_QU_admits_14 em_nc_SF em_sh_SF rfl (by decide) rfl in_SF mn_6 rfl ?_
        refine g_iload_n C 3 3 d_QU_admits_17 rfl rfl ?_
        obtain ⟨hb_6, hw⟩ := hw
        refine g_aald C 2 rfl d_QU_admits_18 em_nc_lists em_sh_lists rfl hb_6 rfl ?_
        refine g_getrN C (4 + 3 * x3_3.toNatClampNeg) 1 rfl d_QU_admits_19 (em_nc_SL (em_pos hb_6)) (em_sh_SL (em_pos hb_6)) rfl (by decide) rfl in_SL mn_1 rfl ?_
        refine g_iload_n C 1 1 d_QU_admits_22 rfl rfl ?_
        obtain ⟨hb_7, hw⟩ := hw
        refine g_iald C (6 + 3 * x3_3.toNatClampNeg) rfl d_QU_admits_23 (em_nc_SLs (em_pos hb_6)) (em_sh_SLs (em_pos hb_6)) rfl hb_7 ?_
        obtain ⟨J_8, hJ_8, hw⟩ := em_jn1 hw
        have j_8 : ∀ (z_10 : Int32) , J_8 z_10 → em_G X D b0 cT ad 5 (SH ad) NC 0 0 M 32 [(0, .ref (ad (40))), (1, .int x1), (2, .int x2_2), (3, .int x3_3)] [.int z_10] := by
          intro z_10 hw
          have hw := hJ_8 z_10 hw
          refine g_istore (lv' := [(4, .int z_10), (0, .ref (ad (40))), (1, .int x1), (2, .int x2_2), (3, .int x3_3)]) C d_QU_admits_32 (by decide) rfl ?_
          refine g_iload C 0 d_QU_admits_34 rfl ?_
          obtain ⟨J_11, hJ_11, hw⟩ := em_jn0 hw
          have j_11 : J_11 → em_G X D b0 cT ad 5 (SH ad) NC 0 0 M 64 [(0, .ref (ad (40))), (1, .int x1), (2, .int x2_2), (3, .int x3_3), (4, .int z_10)] [] := by
            intro  hw
            have hw := hJ_11  hw
            refine g_iload_n C 2 2 d_QU_admits_64 rfl rfl ?_
            obtain ⟨J_15, hJ_15, hw⟩ := em_jn1 hw
            have j_15 : ∀ (z_21 : Int32) , J_15 z_21 → em_G X D b0 cT ad 5 (SH ad) NC 0 0 M 86 [(0, .ref (ad (40))), (1, .int x1), (2, .int x2_2), (3, .int x3_3), (4, .int z_10)] [.int z_21] := by
              intro z_21 hw
              have hw := hJ_15 z_21 hw
              refine g_istore_n (lv' := [(2, .int z_21), (0, .ref (ad (40))), (1, .int x1), (3, .int x3_3), (4, .int z_10)]) C 2 d_QU_admits_86 rfl (by decide) rfl ?_
              obtain ⟨x3_22, ex3_22⟩ : ∃ y : Int32, y = x3_3 + nI 1 := ⟨_, rfl⟩
              have hw := hw x3_22 ex3_22
              refine g_iinc (v := x3_22) (lv' := [(3, .int x3_22), (2, .int z_21), (0, .ref (ad (40))), (1, .int x1), (4, .int z_10)]) C 3 d_QU_admits_87 rfl (by rw [ex3_22]; first | rfl | (congr 1)) (by decide) rfl ?_
              refine g_goto (tgt := 4) C d_QU_admits_90 (by decide) ?_
              refine g_sub [2, 3, 1, 0] rfl ?_
              exact ih_1 z_21 x3_22 (Nat.lt_of_lt_of_le hw.2 (Nat.le_of_lt_succ hn_1)) hw.1
            obtain ⟨J_23, hJ_23, hw⟩ := em_jn0 hw
            have j_23 : J_23 → em_G X D b0 cT ad 5 (SH ad) NC 0 0 M 81 [(0, .ref (ad (40))), (1, .int x1), (2, .int x2_2), (3, .int x3_3), (4, .int z_10)] [] := by
              intro  hw
              have hw := hJ_23  hw
              refine g_iconst (v := (nI 1)) C d_QU_admits_81 (by decide) ?_
              refine g_goto (tgt := 86) C d_QU_admits_82 (by decide) ?_
              refine g_sub [0, 1, 2, 3, 4] rfl ?_
              exact j_15 (nI 1) hw
            refine g_if_ne (tgt := 81) C d_QU_admits_65 (by decide) (fun hc_29 => ?_) (fun hc_29 => ?_)
            · have hw := hw.1 hc_29
              refine g_sub [0, 1, 2, 3, 4] rfl ?_
              exact j_23  hw
            · have hw := hw.2 hc_29
              refine g_iload C 4 d_QU_admits_68 rfl ?_
              obtain ⟨J_30, hJ_30, hw⟩ := em_jn0 hw
              have j_30 : J_30 → em_G X D b0 cT ad 5 (SH ad) NC 0 0 M 85 [(0, .ref (ad (40))), (1, .int x1), (2, .int x2_2), (3, .int x3_3), (4, .int z_10)] [] := by
                intro  hw
                have hw := hJ_30  hw
                refine g_iconst (v := (nI 0)) C d_QU_admits_85 (by decide) ?_
                refine g_sub [0, 1, 2, 3, 4] rfl ?_
                exact j_15 (nI 0) hw
              refine g_if_eq (tgt := 85) C d_QU_admits_70 (by decide) (fun hc_35 => ?_) (fun hc_35 => ?_)
              · have hw := hw.1 hc_35
                refine g_sub [0, 1, 2, 3, 4] rfl ?_
                exact j_30  hw
              · have hw := hw.2 hc_35
                refine g_aload_n C 0 0 d_QU_admits_73 rfl rfl ?_
                refine g_iload_n C 3 3 d_QU_admits_74 rfl rfl ?_
                refine g_callVi C 40 rfl [.int x3_3] [] (c_QU_asksFor  hw) (em_cwV C 1 mw_268 mw_269 mw_9 mw_67 mw_270 rfl rfl (by decide +kernel) (by decide)) em_nc_QU em_sh_QU rfl rfl rfl (Nat.le_of_ble_eq_true rfl) d_QU_admits_75 (by decide) (fun r_37 M_36 hw => ?_)
                obtain ⟨rfl, hw⟩ := hw
                refine g_if_eq (tgt := 85) C d_QU_admits_78 (by decide) (fun hc_38 => ?_) (fun hc_38 => ?_)
                · have hw := hw.1 hc_38
                  refine g_sub [0, 1, 2, 3, 4] rfl ?_
                  exact j_30  hw
                · have hw := hw.2 hc_38
                  refine g_sub [0, 1, 2, 3, 4] rfl ?_
                  exact j_23  hw
          refine g_if_eq (tgt := 52) C d_QU_admits_36 (by decide) (fun hc_39 => ?_) (fun hc_39 => ?_)
          · have hw := hw.1 hc_39
            refine g_aload_n C 1 0 d_QU_admits_52 rfl rfl ?_
            refine g_getr C 40 1 rfl d_QU_admits_53 em_nc_QU em_sh_QU rfl (by decide) rfl in_QU mw_109 rfl ?_
            refine g_iload_n C 4 3 d_QU_admits_56 rfl rfl ?_
            refine g_iald C 41 rfl d_QU_admits_57 em_nc_sorts em_sh_sorts rfl hb_6 ?_
            refine g_iconst (v := (nI 2)) C d_QU_admits_58 (by decide) ?_
            refine g_icmp_ne (tgt := 64) C d_QU_admits_59 (by decide) (fun hc_40 => ?_) (fun hc_40 => ?_)
            · have hw := hw.1 hc_40
              refine g_sub [1, 2, 3, 4, 0] rfl ?_
              exact j_11  hw
            · have hw := hw.2 hc_40
              refine g_iconst (v := (nI 0)) C d_QU_admits_62 (by decide) ?_
              exact g_zret C hQ rfl rfl d_QU_admits_63 ⟨rfl, hw⟩
          · have hw := hw.2 hc_39
            refine g_aload_n C 1 0 d_QU_admits_39 rfl rfl ?_
            refine g_getr C 40 1 rfl d_QU_admits_40 em_nc_QU em_sh_QU rfl (by decide) rfl in_QU mw_109 rfl ?_
            refine g_iload_n C 4 3 d_QU_admits_43 rfl rfl ?_
            refine g_iald C 41 rfl d_QU_admits_44 em_nc_sorts em_sh_sorts rfl hb_6 ?_
            refine g_iconst (v := (nI 3)) C d_QU_admits_45 (by decide) ?_
            refine g_icmp_ne (tgt := 64) C d_QU_admits_46 (by decide) (fun hc_41 => ?_) (fun hc_41 => ?_)
            · have hw := hw.1 hc_41
              refine g_sub [1, 2, 3, 4, 0] rfl ?_
              exact j_11  hw
            · have hw := hw.2 hc_41
              refine g_goto (tgt := 62) C d_QU_admits_49 (by decide) ?_
              refine g_iconst (v := (nI 0)) C d_QU_admits_62 (by decide) ?_
              exact g_zret C hQ rfl rfl d_QU_admits_63 ⟨rfl, hw⟩
        refine g_if_le (tgt := 31) C d_QU_admits_24 (by decide) (fun hc_42 => ?_) (fun hc_42 => ?_)
        · have hw := hw.1 hc_42
          refine g_iconst (v := (nI 0)) C d_QU_admits_31 (by decide) ?_
          refine g_sub [0, 1, 2, 3] rfl ?_
          exact j_8 (nI 0) hw
        · have hw := hw.2 hc_42
          refine g_iconst (v := (nI 1)) C d_QU_admits_27 (by decide) ?_
          refine g_goto (tgt := 32) C d_QU_admits_28 (by decide) ?_
          refine g_sub [0, 1, 2, 3] rfl ?_
          exact j_8 (nI 1) hw
  exact lp_1 _ (nI 0) (nI 0) (Nat.lt_succ_self _) h0
theorem c_QU_admits {l : Launch} {D : va_G} {b0 : Nat} {cT : Nat → ClassId} {ad : Nat → Nat} {post : Int32 → Prop} {x1 : Int32} {M : em_M}  (hw : wp_QU_admits post x1 M) : Met l y_QU_admits (.code y_QU_admits b_QU_admits 5 (some .boolean) :: wAll) rm_QU_admits (va_Pc [.ref (ad (40)), .int x1] (em_U D b0 cT ad (SH ad) NC M)) (va_Qi (fun r M1 => M = M1 ∧ post r) (em_U D b0 cT ad (SH ad) NC) (em_A b0)) 0 0 (em_A b0) :=
  em_met (by decide) rfl (Nat.le_of_ble_eq_true rfl) (fun X C _ _ hQ => v_QU_admits  C hQ hw)
set_option maxHeartbeats 4000000 in
set_option maxRecDepth 100000 in
theorem v_QU_sumOf {X : em_X} {D : va_G} {b0 : Nat} {cT : Nat → ClassId} {ad : Nat → Nat} {post : Int32 → Prop} {x1 : Int32} {M : em_M}  (C : em_Cx X D b0 cT R_QU b_QU_sumOf (some .int) 4 rm_QU_sumOf) (hQ : xQ X = MQ (xB X) (va_Qi (fun r M1 => M = M1 ∧ post r) (em_U D b0 cT ad (SH ad) NC) (em_A b0)) (xA X) (xS X) 0 0 (em_A b0)) (hw : wp_QU_sumOf post x1 M) : em_G X D b0 cT ad 4 (SH ad) NC 0 0 M 0 [(0, .ref (ad (40))), (1, .int x1)] [] := by
  unfold wp_QU_sumOf at hw
  refine g_iconst (v := (nI 0)) C d_QU_sumOf_0 (by decide) ?_
  refine g_istore_n (lv' := [(2, .int (nI 0)), (0, .ref (ad (40))), (1, .int x1)]) C 2 d_QU_sumOf_1 rfl (by decide) rfl ?_
  refine g_iconst (v := (nI 0)) C d_QU_sumOf_2 (by decide) ?_
  refine g_istore_n (lv' := [(3, .int (nI 0)), (2, .int (nI 0)), (0, .ref (ad (40))), (1, .int x1)]) C 3 d_QU_sumOf_3 rfl (by decide) rfl ?_
  obtain ⟨I_1, mu_1, h0, hw⟩ := hw
  refine g_sub [2, 3, 1, 0] rfl ?_
  have lp_1 : ∀ (n_1 : Nat) (x2_2 : Int32) (x3_3 : Int32) , mu_1 x2_2 x3_3 < n_1 → I_1 x2_2 x3_3 → em_G X D b0 cT ad 4 (SH ad) NC 0 0 M 4 [(0, .ref (ad (40))), (1, .int x1), (2, .int x2_2), (3, .int x3_3)] [] := by
    intro n_1
    induction n_1 with
    | zero => intro x2_2 x3_3 h; exact absurd h (Nat.not_lt_zero _)
    | succ n_1 ih_1 =>
      intro x2_2 x3_3 hn_1 hi
      have hw := hw x2_2 x3_3 hi
      refine g_iload_n C 3 3 d_QU_sumOf_4 rfl rfl ?_
      refine g_bipush (v := (nI 12)) C d_QU_sumOf_5 (by decide) ?_
      refine g_icmp_ge (tgt := 48) C d_QU_sumOf_7 (by decide) (fun hc_4 => ?_) (fun hc_4 => ?_)
      · have hw := hw.1 hc_4
        refine g_iload_n C 2 2 d_QU_sumOf_48 rfl rfl ?_
        exact g_iret C hQ rfl d_QU_sumOf_49 ⟨rfl, hw⟩
      · have hw := hw.2 hc_4
        refine g_aload_n C 0 0 d_QU_sumOf_10 rfl rfl ?_
        refine g_iload_n C 3 3 d_QU_sumOf_11 rfl rfl ?_
        refine g_callVi C 40 rfl [.int x3_3] [] (c_QU_asksFor  hw) (em_cwV C 1 mw_268 mw_269 mw_9 mw_67 mw_270 rfl rfl (by decide +kernel) (by decide)) em_nc_QU em_sh_QU rfl rfl rfl (Nat.le_of_ble_eq_true rfl) d_QU_sumOf_12 (by decide) (fun r_6 M_5 hw => ?_)
        obtain ⟨rfl, hw⟩ := hw
        obtain ⟨J_7, hJ_7, hw⟩ := em_jn1 hw
        have j_7 : ∀ (x2_12 : Int32) , J_7 x2_12 → em_G X D b0 cT ad 4 (SH ad) NC 0 0 M 42 [(0, .ref (ad (40))), (1, .int x1), (2, .int x2_12), (3, .int x3_3)] [] := by
          intro x2_12 hw
          have hw := hJ_7 x2_12 hw
          obtain ⟨x3_13, ex3_13⟩ : ∃ y : Int32, y = x3_3 + nI 1 := ⟨_, rfl⟩
          have hw := hw x3_13 ex3_13
          refine g_iinc (v := x3_13) (lv' := [(3, .int x3_13), (0, .ref (ad (40))), (1, .int x1), (2, .int x2_12)]) C 3 d_QU_sumOf_42 rfl (by rw [ex3_13]; first | rfl | (congr 1)) (by decide) rfl ?_
          refine g_goto (tgt := 4) C d_QU_sumOf_45 (by decide) ?_
          refine g_sub [1, 2, 3, 0] rfl ?_
          exact ih_1 x2_12 x3_13 (Nat.lt_of_lt_of_le hw.2 (Nat.le_of_lt_succ hn_1)) hw.1
        refine g_if_eq (tgt := 42) C d_QU_sumOf_15 (by decide) (fun hc_14 => ?_) (fun hc_14 => ?_)
        · have hw := hw.1 hc_14
          refine g_sub [0, 1, 2, 3] rfl ?_
          exact j_7 x2_2 hw
        · have hw := hw.2 hc_14
          refine g_iload_n C 2 2 d_QU_sumOf_18 rfl rfl ?_
          refine g_aload_n C 0 0 d_QU_sumOf_19 rfl rfl ?_
          refine g_getr C 40 2 rfl d_QU_sumOf_20 em_nc_QU em_sh_QU rfl (by decide) rfl in_QU mw_110 rfl ?_
          refine g_iload_n C 3 3 d_QU_sumOf_23 rfl rfl ?_
          obtain ⟨hb_15, hw⟩ := hw
          refine g_iald C 42 rfl d_QU_sumOf_24 em_nc_weights em_sh_weights rfl hb_15 ?_
          refine g_aload_n C 0 0 d_QU_sumOf_25 rfl rfl ?_
          refine g_getr C 40 0 rfl d_QU_sumOf_26 em_nc_QU em_sh_QU rfl (by decide) rfl in_QU mw_108 rfl ?_
          refine g_getrN C 1 0 rfl d_QU_sumOf_29 em_nc_SF em_sh_SF rfl (by decide) rfl in_SF mn_6 rfl ?_
          refine g_iload_n C 3 3 d_QU_sumOf_32 rfl rfl ?_
          refine g_aald C 2 rfl d_QU_sumOf_33 em_nc_lists em_sh_lists rfl hb_15 rfl ?_
          refine g_getrN C (4 + 3 * x3_3.toNatClampNeg) 1 rfl d_QU_sumOf_34 (em_nc_SL (em_pos hb_15)) (em_sh_SL (em_pos hb_15)) rfl (by decide) rfl in_SL mn_1 rfl ?_
          refine g_iload_n C 1 1 d_QU_sumOf_37 rfl rfl ?_
          obtain ⟨hb_16, hw⟩ := hw
          refine g_iald C (6 + 3 * x3_3.toNatClampNeg) rfl d_QU_sumOf_38 (em_nc_SLs (em_pos hb_15)) (em_sh_SLs (em_pos hb_15)) rfl hb_16 ?_
          refine g_imul C d_QU_sumOf_39 ?_
          refine g_iadd C d_QU_sumOf_40 ?_
          refine g_topi (fun x2_17 ex2_17 => ?_)
          have hw := hw x2_17 ex2_17
          refine g_istore_n (lv' := [(2, .int x2_17), (0, .ref (ad (40))), (1, .int x1), (3, .int x3_3)]) C 2 d_QU_sumOf_41 rfl (by decide) rfl ?_
          refine g_sub [1, 2, 0, 3] rfl ?_
          exact j_7 x2_17 hw
  exact lp_1 _ (nI 0) (nI 0) (Nat.lt_succ_self _) h0
theorem c_QU_sumOf {l : Launch} {D : va_G} {b0 : Nat} {cT : Nat → ClassId} {ad : Nat → Nat} {post : Int32 → Prop} {x1 : Int32} {M : em_M}  (hw : wp_QU_sumOf post x1 M) : Met l y_QU_sumOf (.code y_QU_sumOf b_QU_sumOf 4 (some .int) :: wAll) rm_QU_sumOf (va_Pc [.ref (ad (40)), .int x1] (em_U D b0 cT ad (SH ad) NC M)) (va_Qi (fun r M1 => M = M1 ∧ post r) (em_U D b0 cT ad (SH ad) NC) (em_A b0)) 0 0 (em_A b0) :=
  em_met (by decide) rfl (Nat.le_of_ble_eq_true rfl) (fun X C _ _ hQ => v_QU_sumOf  C hQ hw)
set_option maxHeartbeats 4000000 in
set_option maxRecDepth 100000 in
theorem v_RK_isAhead {X : em_X} {D : va_G} {b0 : Nat} {cT : Nat → ClassId} {ad : Nat → Nat} {post : Int32 → Prop} {x1 : Int32} {x2 : Int32} {x3 : Int32} {M : em_M}  (C : em_Cx X D b0 cT R_RK b_RK_isAhead (some .boolean) 4 rm_RK_isAhead) (hQ : xQ X = MQ (xB X) (va_Qi (fun r M1 => M = M1 ∧ post r) (em_U D b0 cT ad (SH ad) NC) (em_A b0)) (xA X) (xS X) 0 0 (em_A b0)) (hw : wp_RK_isAhead post x1 x2 x3 M) : em_G X D b0 cT ad 4 (SH ad) NC 0 0 M 0 [(0, .ref (ad (43))), (1, .int x1), (2, .int x2), (3, .int x3)] [] := by
  unfold wp_RK_isAhead at hw
  refine g_iload_n C 1 1 d_RK_isAhead_0 rfl rfl ?_
  refine g_aload_n C 0 0 d_RK_isAhead_1 rfl rfl ?_
  refine g_getr C 43 1 rfl d_RK_isAhead_2 em_nc_RK em_sh_RK rfl (by decide) rfl in_RK mw_128 rfl ?_
  refine g_iload_n C 3 3 d_RK_isAhead_5 rfl rfl ?_
  obtain ⟨hb_1, hw⟩ := hw
  refine g_iald C 45 rfl d_RK_isAhead_6 em_nc_rNum em_sh_rNum rfl hb_1 ?_
  refine g_icmp_gt (tgt := 30) C d_RK_isAhead_7 (by decide) (fun hc_2 => ?_) (fun hc_2 => ?_)
  · have hw := hw.1 hc_2
    refine g_iconst (v := (nI 1)) C d_RK_isAhead_30 (by decide) ?_
    refine g_goto (tgt := 35) C d_RK_isAhead_31 (by decide) ?_
    exact g_zret C hQ rfl rfl d_RK_isAhead_35 ⟨rfl, hw⟩
  · have hw := hw.2 hc_2
    refine g_iload_n C 1 1 d_RK_isAhead_10 rfl rfl ?_
    refine g_aload_n C 0 0 d_RK_isAhead_11 rfl rfl ?_
    refine g_getr C 43 1 rfl d_RK_isAhead_12 em_nc_RK em_sh_RK rfl (by decide) rfl in_RK mw_128 rfl ?_
    refine g_iload_n C 3 3 d_RK_isAhead_15 rfl rfl ?_
    refine g_iald C 45 rfl d_RK_isAhead_16 em_nc_rNum em_sh_rNum rfl hb_1 ?_
    refine g_icmp_ne (tgt := 34) C d_RK_isAhead_17 (by decide) (fun hc_3 => ?_) (fun hc_3 => ?_)
    · have hw := hw.1 hc_3
      refine g_iconst (v := (nI 0)) C d_RK_isAhead_34 (by decide) ?_
      exact g_zret C hQ rfl rfl d_RK_isAhead_35 ⟨rfl, hw⟩
    · have hw := hw.2 hc_3
      refine g_iload_n C 2 2 d_RK_isAhead_20 rfl rfl ?_
      refine g_aload_n C 0 0 d_RK_isAhead_21 rfl rfl ?_
      refine g_getr C 43 0 rfl d_RK_isAhead_22 em_nc_RK em_sh_RK rfl (by decide) rfl in_RK mw_127 rfl ?_
      refine g_iload_n C 3 3 d_RK_isAhead_25 rfl rfl ?_
      refine g_iald C 44 rfl d_RK_isAhead_26 em_nc_rObj em_sh_rObj rfl hb_1 ?_
      refine g_icmp_ge (tgt := 34) C d_RK_isAhead_27 (by decide) (fun hc_4 => ?_) (fun hc_4 => ?_)
      · have hw := hw.1 hc_4
        refine g_iconst (v := (nI 0)) C d_RK_isAhead_34 (by decide) ?_
        exact g_zret C hQ rfl rfl d_RK_isAhead_35 ⟨rfl, hw⟩
      · have hw := hw.2 hc_4
        refine g_iconst (v := (nI 1)) C d_RK_isAhead_30 (by decide) ?_
        refine g_goto (tgt := 35) C d_RK_isAhead_31 (by decide) ?_
        exact g_zret C hQ rfl rfl d_RK_isAhead_35 ⟨rfl, hw⟩
theorem c_RK_isAhead {l : Launch} {D : va_G} {b0 : Nat} {cT : Nat → ClassId} {ad : Nat → Nat} {post : Int32 → Prop} {x1 : Int32} {x2 : Int32} {x3 : Int32} {M : em_M}  (hw : wp_RK_isAhead post x1 x2 x3 M) : Met l y_RK_isAhead (.code y_RK_isAhead b_RK_isAhead 4 (some .boolean) :: wAll) rm_RK_isAhead (va_Pc [.ref (ad (43)), .int x1, .int x2, .int x3] (em_U D b0 cT ad (SH ad) NC M)) (va_Qi (fun r M1 => M = M1 ∧ post r) (em_U D b0 cT ad (SH ad) NC) (em_A b0)) 0 0 (em_A b0) :=
  em_met (by decide) rfl (Nat.le_of_ble_eq_true rfl) (fun X C _ _ hQ => v_RK_isAhead  C hQ hw)
set_option maxHeartbeats 4000000 in
set_option maxRecDepth 100000 in
theorem v_RK_swap {X : em_X} {D : va_G} {b0 : Nat} {cT : Nat → ClassId} {ad : Nat → Nat} {post : em_M → Prop} {k0 : Nat} {x1 : Int32} {M : em_M} (hk0 : k0 < NC) (hs0 : SH ad k0 = .inl (0, 20)) (C : em_Cx X D b0 cT R_RK b_RK_swap none 3 rm_RK_swap) (hQ : xQ X = MQ (xB X) (va_Qv post (em_U D b0 cT ad (SH ad) NC) (em_A b0)) (xA X) (xS X) 0 0 (em_A b0)) (hw : wp_RK_swap post k0 x1 M) : em_G X D b0 cT ad 3 (SH ad) NC 0 0 M 0 [(0, .ref (ad k0)), (1, .int x1)] [] := by
  unfold wp_RK_swap at hw
  refine g_aload_n C 0 0 d_RK_swap_0 rfl rfl ?_
  refine g_iload_n C 1 1 d_RK_swap_1 rfl rfl ?_
  obtain ⟨hb_1, hw⟩ := hw
  refine g_iald C k0 rfl d_RK_swap_2 hk0 hs0 rfl hb_1 ?_
  refine g_topi (fun x2_2 ex2_2 => ?_)
  have hw := hw x2_2 ex2_2
  refine g_istore_n (lv' := [(2, .int x2_2), (0, .ref (ad k0)), (1, .int x1)]) C 2 d_RK_swap_3 rfl (by decide) rfl ?_
  refine g_aload_n C 1 0 d_RK_swap_4 rfl rfl ?_
  refine g_iload_n C 2 1 d_RK_swap_5 rfl rfl ?_
  refine g_aload_n C 1 0 d_RK_swap_6 rfl rfl ?_
  refine g_iload_n C 2 1 d_RK_swap_7 rfl rfl ?_
  refine g_iconst (v := (nI 1)) C d_RK_swap_8 (by decide) ?_
  refine g_isub C d_RK_swap_9 ?_
  obtain ⟨hb_3, hw⟩ := hw
  refine g_iald C k0 rfl d_RK_swap_10 hk0 hs0 rfl hb_3 ?_
  refine g_iast C k0 rfl d_RK_swap_11 hk0 hs0 rfl hb_1 ?_
  refine g_nameM (fun M_4 eM_4 => ?_)
  have hw := hw M_4 eM_4
  refine g_aload_n C 1 0 d_RK_swap_12 rfl rfl ?_
  refine g_iload_n C 2 1 d_RK_swap_13 rfl rfl ?_
  refine g_iconst (v := (nI 1)) C d_RK_swap_14 (by decide) ?_
  refine g_isub C d_RK_swap_15 ?_
  refine g_iload_n C 0 2 d_RK_swap_16 rfl rfl ?_
  refine g_iast C k0 rfl d_RK_swap_17 hk0 hs0 rfl hb_3 ?_
  refine g_nameM (fun M_5 eM_5 => ?_)
  have hw := hw M_5 eM_5
  exact g_vret C hQ rfl d_RK_swap_18 hw
theorem c_RK_swap {l : Launch} {D : va_G} {b0 : Nat} {cT : Nat → ClassId} {ad : Nat → Nat} {post : em_M → Prop} {k0 : Nat} {x1 : Int32} {M : em_M} (hk0 : k0 < NC) (hs0 : SH ad k0 = .inl (0, 20)) (hw : wp_RK_swap post k0 x1 M) : Met l y_RK_swap (.code y_RK_swap b_RK_swap 3 none :: wAll) rm_RK_swap (va_Pc [.ref (ad k0), .int x1] (em_U D b0 cT ad (SH ad) NC M)) (va_Qv post (em_U D b0 cT ad (SH ad) NC) (em_A b0)) 0 0 (em_A b0) :=
  em_met (by decide) rfl (Nat.le_of_ble_eq_true rfl) (fun X C _ _ hQ => v_RK_swap hk0 hs0 C hQ hw)
set_option maxHeartbeats 4000000 in
set_option maxRecDepth 100000 in
theorem v_RK_rise {X : em_X} {D : va_G} {b0 : Nat} {cT : Nat → ClassId} {ad : Nat → Nat} {post : em_M → Prop} {x1 : Int32} {M : em_M}  (C : em_Cx X D b0 cT R_RK b_RK_rise none 3 rm_RK_rise) (hQ : xQ X = MQ (xB X) (va_Qv post (em_U D b0 cT ad (SH ad) NC) (em_A b0)) (xA X) (xS X) 0 0 (em_A b0)) (hw : wp_RK_rise post x1 M) : em_G X D b0 cT ad 3 (SH ad) NC 0 0 M 0 [(0, .ref (ad (43))), (1, .int x1)] [] := by
  unfold wp_RK_rise at hw
  refine g_iload_n C 1 1 d_RK_rise_0 rfl rfl ?_
  refine g_istore_n (lv' := [(2, .int x1), (0, .ref (ad (43))), (1, .int x1)]) C 2 d_RK_rise_1 rfl (by decide) rfl ?_
  obtain ⟨I_1, mu_1, h0, hw⟩ := hw
  refine g_sub [1, 2, 0] rfl ?_
  have lp_1 : ∀ (n_1 : Nat) (x2_2 : Int32) (M_3 : em_M) , mu_1 x2_2 M_3 < n_1 → I_1 x2_2 M_3 → em_G X D b0 cT ad 3 (SH ad) NC 0 0 M_3 2 [(0, .ref (ad (43))), (1, .int x1), (2, .int x2_2)] [] := by
    intro n_1
    induction n_1 with
    | zero => intro x2_2 M_3 h; exact absurd h (Nat.not_lt_zero _)
    | succ n_1 ih_1 =>
      intro x2_2 M_3 hn_1 hi
      have hw := hw x2_2 M_3 hi
      refine g_iload_n C 2 2 d_RK_rise_2 rfl rfl ?_
      refine g_if_le (tgt := 66) C d_RK_rise_3 (by decide) (fun hc_4 => ?_) (fun hc_4 => ?_)
      · have hw := hw.1 hc_4
        exact g_vret C hQ rfl d_RK_rise_66 hw
      · have hw := hw.2 hc_4
        refine g_aload_n C 0 0 d_RK_rise_6 rfl rfl ?_
        refine g_aload_n C 0 0 d_RK_rise_7 rfl rfl ?_
        refine g_getr C 43 1 rfl d_RK_rise_8 em_nc_RK em_sh_RK rfl (by decide) rfl in_RK mw_128 rfl ?_
        refine g_iload_n C 2 2 d_RK_rise_11 rfl rfl ?_
        obtain ⟨hb_5, hw⟩ := hw
        refine g_iald C 45 rfl d_RK_rise_12 em_nc_rNum em_sh_rNum rfl hb_5 ?_
        refine g_aload_n C 0 0 d_RK_rise_13 rfl rfl ?_
        refine g_getr C 43 0 rfl d_RK_rise_14 em_nc_RK em_sh_RK rfl (by decide) rfl in_RK mw_127 rfl ?_
        refine g_iload_n C 2 2 d_RK_rise_17 rfl rfl ?_
        refine g_iald C 44 rfl d_RK_rise_18 em_nc_rObj em_sh_rObj rfl hb_5 ?_
        refine g_iload_n C 2 2 d_RK_rise_19 rfl rfl ?_
        refine g_iconst (v := (nI 1)) C d_RK_rise_20 (by decide) ?_
        refine g_isub C d_RK_rise_21 ?_
        refine g_callVi C 43 rfl [.int (M_3 (45) x2_2.toNatClampNeg), .int (M_3 (44) x2_2.toNatClampNeg), .int (x2_2 - (nI 1))] [] (c_RK_isAhead  hw) (em_cwV C 3 mw_348 mw_349 mw_33 mw_68 mw_350 rfl rfl (by decide +kernel) (by decide)) em_nc_RK em_sh_RK rfl rfl rfl (Nat.le_of_ble_eq_true rfl) d_RK_rise_22 (by decide) (fun r_7 M_6 hw => ?_)
        obtain ⟨rfl, hw⟩ := hw
        refine g_if_eq (tgt := 66) C d_RK_rise_25 (by decide) (fun hc_8 => ?_) (fun hc_8 => ?_)
        · have hw := hw.1 hc_8
          exact g_vret C hQ rfl d_RK_rise_66 hw
        · have hw := hw.2 hc_8
          refine g_aload_n C 0 0 d_RK_rise_28 rfl rfl ?_
          refine g_getr C 43 0 rfl d_RK_rise_29 em_nc_RK em_sh_RK rfl (by decide) rfl in_RK mw_127 rfl ?_
          refine g_iload_n C 2 2 d_RK_rise_32 rfl rfl ?_
          refine g_callSv C [.ref (ad (44)), .int x2_2] [] (c_RK_swap em_nc_rObj em_sh_rObj hw) (em_cwS C 2 mw_354 mw_355 mw_68 mw_356 rfl rfl (by decide +kernel) (by decide)) rfl rfl (Nat.le_of_ble_eq_true rfl) d_RK_rise_33 (by decide) (fun M_9 hw => ?_)
          refine g_aload_n C 0 0 d_RK_rise_36 rfl rfl ?_
          refine g_getr C 43 1 rfl d_RK_rise_37 em_nc_RK em_sh_RK rfl (by decide) rfl in_RK mw_128 rfl ?_
          refine g_iload_n C 2 2 d_RK_rise_40 rfl rfl ?_
          refine g_callSv C [.ref (ad (45)), .int x2_2] [] (c_RK_swap em_nc_rNum em_sh_rNum hw) (em_cwS C 2 mw_354 mw_355 mw_68 mw_356 rfl rfl (by decide +kernel) (by decide)) rfl rfl (Nat.le_of_ble_eq_true rfl) d_RK_rise_41 (by decide) (fun M_10 hw => ?_)
          refine g_aload_n C 0 0 d_RK_rise_44 rfl rfl ?_
          refine g_getr C 43 2 rfl d_RK_rise_45 em_nc_RK em_sh_RK rfl (by decide) rfl in_RK mw_129 rfl ?_
          refine g_iload_n C 2 2 d_RK_rise_48 rfl rfl ?_
          refine g_callSv C [.ref (ad (46)), .int x2_2] [] (c_RK_swap em_nc_rSum em_sh_rSum hw) (em_cwS C 2 mw_354 mw_355 mw_68 mw_356 rfl rfl (by decide +kernel) (by decide)) rfl rfl (Nat.le_of_ble_eq_true rfl) d_RK_rise_49 (by decide) (fun M_11 hw => ?_)
          refine g_aload_n C 0 0 d_RK_rise_52 rfl rfl ?_
          refine g_getr C 43 3 rfl d_RK_rise_53 em_nc_RK em_sh_RK rfl (by decide) rfl in_RK mw_130 rfl ?_
          refine g_iload_n C 2 2 d_RK_rise_56 rfl rfl ?_
          refine g_callSv C [.ref (ad (47)), .int x2_2] [] (c_RK_swap em_nc_rKey em_sh_rKey hw) (em_cwS C 2 mw_354 mw_355 mw_68 mw_356 rfl rfl (by decide +kernel) (by decide)) rfl rfl (Nat.le_of_ble_eq_true rfl) d_RK_rise_57 (by decide) (fun M_12 hw => ?_)
          obtain ⟨x2_13, ex2_13⟩ : ∃ y : Int32, y = x2_2 + (-1) := ⟨_, rfl⟩
          have hw := hw x2_13 ex2_13
          refine g_iinc (v := x2_13) (lv' := [(2, .int x2_13), (0, .ref (ad (43))), (1, .int x1)]) C 2 d_RK_rise_60 rfl (by rw [ex2_13]; first | rfl | (congr 1)) (by decide) rfl ?_
          refine g_goto (tgt := 2) C d_RK_rise_63 (by decide) ?_
          refine g_sub [1, 2, 0] rfl ?_
          exact ih_1 x2_13 M_12 (Nat.lt_of_lt_of_le hw.2 (Nat.le_of_lt_succ hn_1)) hw.1
  exact lp_1 _ x1 M (Nat.lt_succ_self _) h0
theorem c_RK_rise {l : Launch} {D : va_G} {b0 : Nat} {cT : Nat → ClassId} {ad : Nat → Nat} {post : em_M → Prop} {x1 : Int32} {M : em_M}  (hw : wp_RK_rise post x1 M) : Met l y_RK_rise (.code y_RK_rise b_RK_rise 3 none :: wAll) rm_RK_rise (va_Pc [.ref (ad (43)), .int x1] (em_U D b0 cT ad (SH ad) NC M)) (va_Qv post (em_U D b0 cT ad (SH ad) NC) (em_A b0)) 0 0 (em_A b0) :=
  em_met (by decide) rfl (Nat.le_of_ble_eq_true rfl) (fun X C _ _ hQ => v_RK_rise  C hQ hw)
set_option maxHeartbeats 4000000 in
set_option maxRecDepth 100000 in
theorem v_RK_offer {X : em_X} {D : va_G} {b0 : Nat} {cT : Nat → ClassId} {ad : Nat → Nat} {post : em_M → Prop} {x1 : Int32} {x2 : Int32} {x3 : Int32} {x4 : Int32} {M : em_M}  (C : em_Cx X D b0 cT R_RK b_RK_offer none 6 rm_RK_offer) (hQ : xQ X = MQ (xB X) (va_Qv post (em_U D b0 cT ad (SH ad) NC) (em_A b0)) (xA X) (xS X) 0 0 (em_A b0)) (hw : wp_RK_offer post x1 x2 x3 x4 M) : em_G X D b0 cT ad 6 (SH ad) NC 0 0 M 0 [(0, .ref (ad (43))), (1, .int x1), (2, .int x2), (3, .int x3), (4, .int x4)] [] := by
  unfold wp_RK_offer at hw
  refine g_aload_n C 0 0 d_RK_offer_0 rfl rfl ?_
  refine g_geti C 43 4 rfl d_RK_offer_1 em_nc_RK em_sh_RK rfl (by decide) rfl in_RK mw_131 rfl ?_
  refine g_topi (fun x5_1 ex5_1 => ?_)
  have hw := hw x5_1 ex5_1
  refine g_istore (lv' := [(5, .int x5_1), (0, .ref (ad (43))), (1, .int x1), (2, .int x2), (3, .int x3), (4, .int x4)]) C d_RK_offer_4 (by decide) rfl ?_
  refine g_aload_n C 1 0 d_RK_offer_6 rfl rfl ?_
  refine g_callVi C 43 rfl [] [] (c_RK_isFull  hw) (em_cwV C 0 mw_347 mw_315 mw_21 mw_68 mw_316 rfl rfl (by decide +kernel) (by decide)) em_nc_RK em_sh_RK rfl rfl rfl (Nat.le_of_ble_eq_true rfl) d_RK_offer_7 (by decide) (fun r_3 M_2 hw => ?_)
  obtain ⟨rfl, hw⟩ := hw
  obtain ⟨J_4, hJ_4, hw⟩ := em_jn2 hw
  have j_4 : ∀ (x5_12 : Int32) (M_13 : em_M) , J_4 x5_12 M_13 → em_G X D b0 cT ad 6 (SH ad) NC 0 0 M_13 48 [(0, .ref (ad (43))), (1, .int x1), (2, .int x2), (3, .int x3), (4, .int x4), (5, .int x5_12)] [] := by
    intro x5_12 M_13 hw
    have hw := hJ_4 x5_12 M_13 hw
    refine g_aload_n C 0 0 d_RK_offer_48 rfl rfl ?_
    refine g_getr C 43 0 rfl d_RK_offer_49 em_nc_RK em_sh_RK rfl (by decide) rfl in_RK mw_127 rfl ?_
    refine g_iload C 5 d_RK_offer_52 rfl ?_
    refine g_iload_n C 1 1 d_RK_offer_54 rfl rfl ?_
    obtain ⟨hb_14, hw⟩ := hw
    refine g_iast C 44 rfl d_RK_offer_55 em_nc_rObj em_sh_rObj rfl hb_14 ?_
    refine g_nameM (fun M_15 eM_15 => ?_)
    have hw := hw M_15 eM_15
    refine g_aload_n C 0 0 d_RK_offer_56 rfl rfl ?_
    refine g_getr C 43 1 rfl d_RK_offer_57 em_nc_RK em_sh_RK rfl (by decide) rfl in_RK mw_128 rfl ?_
    refine g_iload C 5 d_RK_offer_60 rfl ?_
    refine g_iload_n C 2 2 d_RK_offer_62 rfl rfl ?_
    refine g_iast C 45 rfl d_RK_offer_63 em_nc_rNum em_sh_rNum rfl hb_14 ?_
    refine g_nameM (fun M_16 eM_16 => ?_)
    have hw := hw M_16 eM_16
    refine g_aload_n C 0 0 d_RK_offer_64 rfl rfl ?_
    refine g_getr C 43 2 rfl d_RK_offer_65 em_nc_RK em_sh_RK rfl (by decide) rfl in_RK mw_129 rfl ?_
    refine g_iload C 5 d_RK_offer_68 rfl ?_
    refine g_iload_n C 3 3 d_RK_offer_70 rfl rfl ?_
    refine g_iast C 46 rfl d_RK_offer_71 em_nc_rSum em_sh_rSum rfl hb_14 ?_
    refine g_nameM (fun M_17 eM_17 => ?_)
    have hw := hw M_17 eM_17
    refine g_aload_n C 0 0 d_RK_offer_72 rfl rfl ?_
    refine g_getr C 43 3 rfl d_RK_offer_73 em_nc_RK em_sh_RK rfl (by decide) rfl in_RK mw_130 rfl ?_
    refine g_iload C 5 d_RK_offer_76 rfl ?_
    refine g_iload C 4 d_RK_offer_78 rfl ?_
    refine g_iast C 47 rfl d_RK_offer_80 em_nc_rKey em_sh_rKey rfl hb_14 ?_
    refine g_nameM (fun M_18 eM_18 => ?_)
    have hw := hw M_18 eM_18
    refine g_aload_n C 0 0 d_RK_offer_81 rfl rfl ?_
    refine g_iload C 5 d_RK_offer_82 rfl ?_
    refine g_callVv C 43 rfl [.int x5_12] [] (c_RK_rise  hw) (em_cwV C 1 mw_351 mw_352 mw_34 mw_68 mw_353 rfl rfl (by decide +kernel) (by decide)) em_nc_RK em_sh_RK rfl rfl rfl (Nat.le_of_ble_eq_true rfl) d_RK_offer_84 (by decide) (fun M_19 hw => ?_)
    exact g_vret C hQ rfl d_RK_offer_87 hw
  refine g_if_eq (tgt := 38) C d_RK_offer_10 (by decide) (fun hc_20 => ?_) (fun hc_20 => ?_)
  · have hw := hw.1 hc_20
    refine g_aload_n C 1 0 d_RK_offer_38 rfl rfl ?_
    refine g_dup C d_RK_offer_39 rfl ?_
    refine g_geti C 43 4 rfl d_RK_offer_40 em_nc_RK em_sh_RK rfl (by decide) rfl in_RK mw_131 rfl ?_
    refine g_iconst (v := (nI 1)) C d_RK_offer_43 (by decide) ?_
    refine g_iadd C d_RK_offer_44 ?_
    refine g_puti C 43 4 rfl ty_RK tyok_RK nm_RK d_RK_offer_45 em_nc_RK em_sh_RK rfl (by decide) rfl in_RK mw_131 rfl rfl rfl rfl rfl ?_
    refine g_nameM (fun M_21 eM_21 => ?_)
    have hw := hw M_21 eM_21
    refine g_sub [1, 2, 3, 4, 5, 0] rfl ?_
    exact j_4 x5_1 M_21 hw
  · have hw := hw.2 hc_20
    refine g_aload_n C 1 0 d_RK_offer_13 rfl rfl ?_
    refine g_geti C 43 4 rfl d_RK_offer_14 em_nc_RK em_sh_RK rfl (by decide) rfl in_RK mw_131 rfl ?_
    refine g_iconst (v := (nI 1)) C d_RK_offer_17 (by decide) ?_
    refine g_isub C d_RK_offer_18 ?_
    refine g_topi (fun x5_22 ex5_22 => ?_)
    have hw := hw x5_22 ex5_22
    refine g_istore (lv' := [(5, .int x5_22), (0, .ref (ad (43))), (1, .int x1), (2, .int x2), (3, .int x3), (4, .int x4)]) C d_RK_offer_19 (by decide) rfl ?_
    refine g_iload C 0 d_RK_offer_21 rfl ?_
    refine g_if_lt (tgt := 37) C d_RK_offer_23 (by decide) (fun hc_23 => ?_) (fun hc_23 => ?_)
    · have hw := hw.1 hc_23
      exact g_vret C hQ rfl d_RK_offer_37 hw
    · have hw := hw.2 hc_23
      refine g_aload_n C 1 0 d_RK_offer_26 rfl rfl ?_
      refine g_iload_n C 3 2 d_RK_offer_27 rfl rfl ?_
      refine g_iload_n C 2 1 d_RK_offer_28 rfl rfl ?_
      refine g_iload C 0 d_RK_offer_29 rfl ?_
      refine g_callVi C 43 rfl [.int x2, .int x1, .int x5_22] [] (c_RK_isAhead  hw) (em_cwV C 3 mw_348 mw_349 mw_33 mw_68 mw_350 rfl rfl (by decide +kernel) (by decide)) em_nc_RK em_sh_RK rfl rfl rfl (Nat.le_of_ble_eq_true rfl) d_RK_offer_31 (by decide) (fun r_25 M_24 hw => ?_)
      obtain ⟨rfl, hw⟩ := hw
      refine g_if_ne (tgt := 48) C d_RK_offer_34 (by decide) (fun hc_26 => ?_) (fun hc_26 => ?_)
      · have hw := hw.1 hc_26
        refine g_sub [1, 2, 3, 4, 5, 0] rfl ?_
        exact j_4 x5_22 M hw
      · have hw := hw.2 hc_26
        exact g_vret C hQ rfl d_RK_offer_37 hw
theorem c_RK_offer {l : Launch} {D : va_G} {b0 : Nat} {cT : Nat → ClassId} {ad : Nat → Nat} {post : em_M → Prop} {x1 : Int32} {x2 : Int32} {x3 : Int32} {x4 : Int32} {M : em_M}  (hw : wp_RK_offer post x1 x2 x3 x4 M) : Met l y_RK_offer (.code y_RK_offer b_RK_offer 6 none :: wAll) rm_RK_offer (va_Pc [.ref (ad (43)), .int x1, .int x2, .int x3, .int x4] (em_U D b0 cT ad (SH ad) NC M)) (va_Qv post (em_U D b0 cT ad (SH ad) NC) (em_A b0)) 0 0 (em_A b0) :=
  em_met (by decide) rfl (Nat.le_of_ble_eq_true rfl) (fun X C _ _ hQ => v_RK_offer  C hQ hw)
set_option maxHeartbeats 4000000 in
set_option maxRecDepth 100000 in
theorem v_KS_goThrough {X : em_X} {D : va_G} {b0 : Nat} {cT : Nat → ClassId} {ad : Nat → Nat} {post : em_M → Prop} {x1 : Int32} {x2 : Int32} {M : em_M}  (C : em_Cx X D b0 cT R_KS b_KS_goThrough none 5 rm_KS_goThrough) (hQ : xQ X = MQ (xB X) (va_Qv post (em_U D b0 cT ad (SH ad) NC) (em_A b0)) (xA X) (xS X) 0 0 (em_A b0)) (hw : wp_KS_goThrough post x1 x2 M) : em_G X D b0 cT ad 5 (SH ad) NC 0 0 M 0 [(0, .ref (ad (51))), (1, .int x1), (2, .int x2)] [] := by
  unfold wp_KS_goThrough at hw
  refine g_aload_n C 0 0 d_KS_goThrough_0 rfl rfl ?_
  refine g_getr C 51 2 rfl d_KS_goThrough_1 em_nc_KS em_sh_KS rfl (by decide) rfl in_KS mw_175 rfl ?_
  refine g_callVNi C 43 rfl [] [] (c_RK_isFull  hw) (em_cnB C 0 mn_64 mw_68 mw_316 rfl rfl (by decide +kernel) (by decide)) mw_315 mw_21 em_nc_RK em_sh_RK rfl rfl rfl (Nat.le_of_ble_eq_true rfl) d_KS_goThrough_4 (by decide) (fun r_2 M_1 hw => ?_)
  obtain ⟨rfl, hw⟩ := hw
  obtain ⟨J_3, hJ_3, hw⟩ := em_jn0 hw
  have j_3 : J_3 → em_G X D b0 cT ad 5 (SH ad) NC 0 0 M 32 [(0, .ref (ad (51))), (1, .int x1), (2, .int x2)] [] := by
    intro  hw
    have hw := hJ_3  hw
    refine g_iload_n C 1 1 d_KS_goThrough_32 rfl rfl ?_
    refine g_istore_n (lv' := [(3, .int x1), (0, .ref (ad (51))), (1, .int x1), (2, .int x2)]) C 3 d_KS_goThrough_33 rfl (by decide) rfl ?_
    obtain ⟨I_9, mu_9, h0, hw⟩ := hw
    refine g_sub [1, 2, 3, 0] rfl ?_
    have lp_9 : ∀ (n_9 : Nat) (x3_10 : Int32) (M_11 : em_M) , mu_9 x3_10 M_11 < n_9 → I_9 x3_10 M_11 → em_G X D b0 cT ad 5 (SH ad) NC 0 0 M_11 34 [(0, .ref (ad (51))), (1, .int x1), (2, .int x2), (3, .int x3_10)] [] := by
      intro n_9
      induction n_9 with
      | zero => intro x3_10 M_11 h; exact absurd h (Nat.not_lt_zero _)
      | succ n_9 ih_9 =>
        intro x3_10 M_11 hn_9 hi
        have hw := hw x3_10 M_11 hi
        refine g_iload_n C 3 3 d_KS_goThrough_34 rfl rfl ?_
        refine g_iload_n C 1 1 d_KS_goThrough_35 rfl rfl ?_
        refine g_bipush (v := (nI 16)) C d_KS_goThrough_36 (by decide) ?_
        refine g_iadd C d_KS_goThrough_38 ?_
        refine g_icmp_ge (tgt := 90) C d_KS_goThrough_39 (by decide) (fun hc_12 => ?_) (fun hc_12 => ?_)
        · have hw := hw.1 hc_12
          exact g_vret C hQ rfl d_KS_goThrough_90 hw
        · have hw := hw.2 hc_12
          refine g_aload_n C 0 0 d_KS_goThrough_42 rfl rfl ?_
          refine g_getr C 51 1 rfl d_KS_goThrough_43 em_nc_KS em_sh_KS rfl (by decide) rfl in_KS mw_174 rfl ?_
          refine g_iload_n C 3 3 d_KS_goThrough_46 rfl rfl ?_
          refine g_callVNi C 40 rfl [.int x3_10] [] (c_QU_admits  hw) (em_cnB C 1 mn_66 mw_67 mw_267 rfl rfl (by decide +kernel) (by decide)) mw_266 mw_8 em_nc_QU em_sh_QU rfl rfl rfl (Nat.le_of_ble_eq_true rfl) d_KS_goThrough_47 (by decide) (fun r_14 M_13 hw => ?_)
          obtain ⟨rfl, hw⟩ := hw
          obtain ⟨J_15, hJ_15, hw⟩ := em_jn1 hw
          have j_15 : ∀ (M_22 : em_M) , J_15 M_22 → em_G X D b0 cT ad 5 (SH ad) NC 0 0 M_22 84 [(0, .ref (ad (51))), (1, .int x1), (2, .int x2), (3, .int x3_10)] [] := by
            intro M_22 hw
            have hw := hJ_15 M_22 hw
            obtain ⟨x3_23, ex3_23⟩ : ∃ y : Int32, y = x3_10 + nI 1 := ⟨_, rfl⟩
            have hw := hw x3_23 ex3_23
            refine g_iinc (v := x3_23) (lv' := [(3, .int x3_23), (0, .ref (ad (51))), (1, .int x1), (2, .int x2)]) C 3 d_KS_goThrough_84 rfl (by rw [ex3_23]; first | rfl | (congr 1)) (by decide) rfl ?_
            refine g_goto (tgt := 34) C d_KS_goThrough_87 (by decide) ?_
            refine g_sub [1, 2, 3, 0] rfl ?_
            exact ih_9 x3_23 M_22 (Nat.lt_of_lt_of_le hw.2 (Nat.le_of_lt_succ hn_9)) hw.1
          refine g_if_eq (tgt := 84) C d_KS_goThrough_50 (by decide) (fun hc_24 => ?_) (fun hc_24 => ?_)
          · have hw := hw.1 hc_24
            refine g_sub [0, 1, 2, 3] rfl ?_
            exact j_15 M_11 hw
          · have hw := hw.2 hc_24
            refine g_aload_n C 0 0 d_KS_goThrough_53 rfl rfl ?_
            refine g_getr C 51 0 rfl d_KS_goThrough_54 em_nc_KS em_sh_KS rfl (by decide) rfl in_KS mw_173 rfl ?_
            refine g_getrN C 1 1 rfl d_KS_goThrough_57 em_nc_SF em_sh_SF rfl (by decide) rfl in_SF mn_7 rfl ?_
            refine g_iload_n C 3 3 d_KS_goThrough_60 rfl rfl ?_
            obtain ⟨hb_25, hw⟩ := hw
            refine g_iald C 3 rfl d_KS_goThrough_61 em_nc_keyOf em_sh_keyOf rfl hb_25 ?_
            refine g_topi (fun x4_26 ex4_26 => ?_)
            have hw := hw x4_26 ex4_26
            refine g_istore (lv' := [(4, .int x4_26), (0, .ref (ad (51))), (1, .int x1), (2, .int x2), (3, .int x3_10)]) C d_KS_goThrough_62 (by decide) rfl ?_
            refine g_aload_n C 1 0 d_KS_goThrough_64 rfl rfl ?_
            refine g_getr C 51 2 rfl d_KS_goThrough_65 em_nc_KS em_sh_KS rfl (by decide) rfl in_KS mw_175 rfl ?_
            refine g_iload_n C 4 3 d_KS_goThrough_68 rfl rfl ?_
            refine g_iload C 0 d_KS_goThrough_69 rfl ?_
            refine g_aload_n C 1 0 d_KS_goThrough_71 rfl rfl ?_
            refine g_getr C 51 1 rfl d_KS_goThrough_72 em_nc_KS em_sh_KS rfl (by decide) rfl in_KS mw_174 rfl ?_
            refine g_iload_n C 4 3 d_KS_goThrough_75 rfl rfl ?_
            refine g_callVNi C 40 rfl [.int x3_10] [.int x4_26, .int x3_10, .ref (ad (43))] (c_QU_sumOf  hw) (em_cnB C 1 mn_67 mw_67 mw_276 rfl rfl (by decide +kernel) (by decide)) mw_275 mw_10 em_nc_QU em_sh_QU rfl rfl rfl (Nat.le_of_ble_eq_true rfl) d_KS_goThrough_76 (by decide) (fun r_28 M_27 hw => ?_)
            obtain ⟨rfl, hw⟩ := hw
            refine g_iload C 0 d_KS_goThrough_79 rfl ?_
            refine g_callVNv C 43 rfl [.int x3_10, .int x4_26, .int r_28, .int x4_26] [] (c_RK_offer  hw) (em_cnB C 4 mn_68 mw_68 mw_346 rfl rfl (by decide +kernel) (by decide)) mw_345 mw_32 em_nc_RK em_sh_RK rfl rfl rfl (Nat.le_of_ble_eq_true rfl) d_KS_goThrough_81 (by decide) (fun M_29 hw => ?_)
            refine g_sub [1, 2, 3, 4] rfl ?_
            exact j_15 M_29 hw
    exact lp_9 _ x1 M (Nat.lt_succ_self _) h0
  refine g_if_eq (tgt := 32) C d_KS_goThrough_7 (by decide) (fun hc_30 => ?_) (fun hc_30 => ?_)
  · have hw := hw.1 hc_30
    refine g_sub [0, 1, 2] rfl ?_
    exact j_3  hw
  · have hw := hw.2 hc_30
    refine g_iload_n C 2 2 d_KS_goThrough_10 rfl rfl ?_
    refine g_aload_n C 0 0 d_KS_goThrough_11 rfl rfl ?_
    refine g_getr C 51 2 rfl d_KS_goThrough_12 em_nc_KS em_sh_KS rfl (by decide) rfl in_KS mw_175 rfl ?_
    refine g_callVNi C 43 rfl [] [.int x2] (c_RK_leastNumber  hw) (em_cnB C 0 mn_65 mw_68 mw_318 rfl rfl (by decide +kernel) (by decide)) mw_317 mw_22 em_nc_RK em_sh_RK rfl rfl rfl (Nat.le_of_ble_eq_true rfl) d_KS_goThrough_15 (by decide) (fun r_32 M_31 hw => ?_)
    obtain ⟨rfl, hw⟩ := hw
    refine g_icmp_gt (tgt := 32) C d_KS_goThrough_18 (by decide) (fun hc_33 => ?_) (fun hc_33 => ?_)
    · have hw := hw.1 hc_33
      refine g_sub [0, 1, 2] rfl ?_
      exact j_3  hw
    · have hw := hw.2 hc_33
      refine g_aload_n C 0 0 d_KS_goThrough_21 rfl rfl ?_
      refine g_dup C d_KS_goThrough_22 rfl ?_
      refine g_geti C 51 4 rfl d_KS_goThrough_23 em_nc_KS em_sh_KS rfl (by decide) rfl in_KS mw_177 rfl ?_
      refine g_iconst (v := (nI 1)) C d_KS_goThrough_26 (by decide) ?_
      refine g_iadd C d_KS_goThrough_27 ?_
      refine g_puti C 51 4 rfl ty_KS tyok_KS nm_KS d_KS_goThrough_28 em_nc_KS em_sh_KS rfl (by decide) rfl in_KS mw_177 rfl rfl rfl rfl rfl ?_
      refine g_nameM (fun M_34 eM_34 => ?_)
      have hw := hw M_34 eM_34
      exact g_vret C hQ rfl d_KS_goThrough_31 hw
theorem c_KS_goThrough {l : Launch} {D : va_G} {b0 : Nat} {cT : Nat → ClassId} {ad : Nat → Nat} {post : em_M → Prop} {x1 : Int32} {x2 : Int32} {M : em_M}  (hw : wp_KS_goThrough post x1 x2 M) : Met l y_KS_goThrough (.code y_KS_goThrough b_KS_goThrough 5 none :: wAll) rm_KS_goThrough (va_Pc [.ref (ad (51)), .int x1, .int x2] (em_U D b0 cT ad (SH ad) NC M)) (va_Qv post (em_U D b0 cT ad (SH ad) NC) (em_A b0)) 0 0 (em_A b0) :=
  em_met (by decide) rfl (Nat.le_of_ble_eq_true rfl) (fun X C _ _ hQ => v_KS_goThrough  C hQ hw)
set_option maxHeartbeats 4000000 in
set_option maxRecDepth 100000 in
theorem v_KS_run {X : em_X} {D : va_G} {b0 : Nat} {cT : Nat → ClassId} {ad : Nat → Nat} {post : em_M → Prop}  {M : em_M}  (C : em_Cx X D b0 cT R_KS b_KS_run none 3 rm_KS_run) (hQ : xQ X = MQ (xB X) (va_Qv post (em_U D b0 cT ad (SH ad) NC) (em_A b0)) (xA X) (xS X) 0 0 (em_A b0)) (hw : wp_KS_run post  M) : em_G X D b0 cT ad 3 (SH ad) NC 0 0 M 0 [(0, .ref (ad (51)))] [] := by
  unfold wp_KS_run at hw
  refine g_aload_n C 0 0 d_KS_run_0 rfl rfl ?_
  refine g_getr C 51 2 rfl d_KS_run_1 em_nc_KS em_sh_KS rfl (by decide) rfl in_KS mw_175 rfl ?_
  refine g_aload_n C 0 0 d_KS_run_4 rfl rfl ?_
  refine g_getr C 51 1 rfl d_KS_run_5 em_nc_KS em_sh_KS rfl (by decide) rfl in_KS mw_174 rfl ?_
  refine g_getiN C 40 3 rfl d_KS_run_8 em_nc_QU em_sh_QU rfl (by decide) rfl in_QU mn_14 rfl ?_
  refine g_callVNv C 43 rfl [.int (M (40) 3)] [] (c_RK_begin  hw) (em_cnB C 1 mn_62 mw_68 mw_291 rfl rfl (by decide +kernel) (by decide)) mw_290 mw_13 em_nc_RK em_sh_RK rfl rfl rfl (Nat.le_of_ble_eq_true rfl) d_KS_run_11 (by decide) (fun M_1 hw => ?_)
  refine g_aload_n C 0 0 d_KS_run_14 rfl rfl ?_
  refine g_iconst (v := (nI 0)) C d_KS_run_15 (by decide) ?_
  refine g_puti C 51 3 rfl ty_KS tyok_KS nm_KS d_KS_run_16 em_nc_KS em_sh_KS rfl (by decide) rfl in_KS mw_176 rfl rfl rfl rfl rfl ?_
  refine g_nameM (fun M_2 eM_2 => ?_)
  have hw := hw M_2 eM_2
  refine g_aload_n C 0 0 d_KS_run_19 rfl rfl ?_
  refine g_iconst (v := (nI 0)) C d_KS_run_20 (by decide) ?_
  refine g_puti C 51 4 rfl ty_KS tyok_KS nm_KS d_KS_run_21 em_nc_KS em_sh_KS rfl (by decide) rfl in_KS mw_177 rfl rfl rfl rfl rfl ?_
  refine g_nameM (fun M_3 eM_3 => ?_)
  have hw := hw M_3 eM_3
  refine g_iconst (v := (nI 0)) C d_KS_run_24 (by decide) ?_
  refine g_istore_n (lv' := [(1, .int (nI 0)), (0, .ref (ad (51)))]) C 1 d_KS_run_25 rfl (by decide) rfl ?_
  obtain ⟨I_4, mu_4, h0, hw⟩ := hw
  refine g_sub [1, 0] rfl ?_
  have lp_4 : ∀ (n_4 : Nat) (x1_5 : Int32) (M_6 : em_M) , mu_4 x1_5 M_6 < n_4 → I_4 x1_5 M_6 → em_G X D b0 cT ad 3 (SH ad) NC 0 0 M_6 26 [(0, .ref (ad (51))), (1, .int x1_5)] [] := by
    intro n_4
    induction n_4 with
    | zero => intro x1_5 M_6 h; exact absurd h (Nat.not_lt_zero _)
    | succ n_4 ih_4 =>
      intro x1_5 M_6 hn_4 hi
      have hw := hw x1_5 M_6 hi
      refine g_iload_n C 1 1 d_KS_run_26 rfl rfl ?_
      refine g_sipush (v := (nI 512)) C d_KS_run_27 (by decide) ?_
      refine g_icmp_ge (tgt := 75) C d_KS_run_30 (by decide) (fun hc_7 => ?_) (fun hc_7 => ?_)
      · have hw := hw.1 hc_7
        exact g_vret C hQ rfl d_KS_run_75 hw
      · have hw := hw.2 hc_7
        refine g_aload_n C 0 0 d_KS_run_33 rfl rfl ?_
        refine g_getr C 51 0 rfl d_KS_run_34 em_nc_KS em_sh_KS rfl (by decide) rfl in_KS mw_173 rfl ?_
        refine g_iload_n C 1 1 d_KS_run_37 rfl rfl ?_
        refine g_iload_n C 1 1 d_KS_run_38 rfl rfl ?_
        refine g_bipush (v := (nI 16)) C d_KS_run_39 (by decide) ?_
        refine g_iadd C d_KS_run_41 ?_
        refine g_callVNi C 1 rfl [.int x1_5, .int (x1_5 + (nI 16))] [] (c_SF_greatestKeyBetween  hw) (em_cnB C 2 mn_63 mw_65 mw_364 rfl rfl (by decide +kernel) (by decide)) mw_363 mw_36 em_nc_SF em_sh_SF rfl rfl rfl (Nat.le_of_ble_eq_true rfl) d_KS_run_42 (by decide) (fun r_9 M_8 hw => ?_)
        obtain ⟨rfl, hw⟩ := hw
        refine g_istore_n (lv' := [(2, .int r_9), (0, .ref (ad (51))), (1, .int x1_5)]) C 2 d_KS_run_45 rfl (by decide) rfl ?_
        refine g_iload_n C 0 2 d_KS_run_46 rfl rfl ?_
        refine g_sipush (v := (-1001 : Int32)) C d_KS_run_47 (by decide) ?_
        obtain ⟨J_10, hJ_10, hw⟩ := em_jn1 hw
        have j_10 : ∀ (M_14 : em_M) , J_10 M_14 → em_G X D b0 cT ad 3 (SH ad) NC 0 0 M_14 69 [(0, .ref (ad (51))), (1, .int x1_5), (2, .int r_9)] [] := by
          intro M_14 hw
          have hw := hJ_10 M_14 hw
          obtain ⟨x1_15, ex1_15⟩ : ∃ y : Int32, y = x1_5 + nI 16 := ⟨_, rfl⟩
          have hw := hw x1_15 ex1_15
          refine g_iinc (v := x1_15) (lv' := [(1, .int x1_15), (0, .ref (ad (51))), (2, .int r_9)]) C 1 d_KS_run_69 rfl (by rw [ex1_15]; first | rfl | (congr 1)) (by decide) rfl ?_
          refine g_goto (tgt := 26) C d_KS_run_72 (by decide) ?_
          refine g_sub [1, 0] rfl ?_
          exact ih_4 x1_15 M_14 (Nat.lt_of_lt_of_le hw.2 (Nat.le_of_lt_succ hn_4)) hw.1
        refine g_icmp_eq (tgt := 69) C d_KS_run_50 (by decide) (fun hc_16 => ?_) (fun hc_16 => ?_)
        · have hw := hw.1 hc_16
          refine g_sub [1, 2, 0] rfl ?_
          exact j_10 M_6 hw
        · have hw := hw.2 hc_16
          refine g_aload_n C 1 0 d_KS_run_53 rfl rfl ?_
          refine g_dup C d_KS_run_54 rfl ?_
          refine g_geti C 51 3 rfl d_KS_run_55 em_nc_KS em_sh_KS rfl (by decide) rfl in_KS mw_176 rfl ?_
          refine g_iconst (v := (nI 1)) C d_KS_run_58 (by decide) ?_
          refine g_iadd C d_KS_run_59 ?_
          refine g_puti C 51 3 rfl ty_KS tyok_KS nm_KS d_KS_run_60 em_nc_KS em_sh_KS rfl (by decide) rfl in_KS mw_176 rfl rfl rfl rfl rfl ?_
          refine g_nameM (fun M_17 eM_17 => ?_)
          have hw := hw M_17 eM_17
          refine g_aload_n C 1 0 d_KS_run_63 rfl rfl ?_
          refine g_iload_n C 2 1 d_KS_run_64 rfl rfl ?_
          refine g_iload_n C 0 2 d_KS_run_65 rfl rfl ?_
          refine g_callVv C 51 rfl [.int x1_5, .int r_9] [] (c_KS_goThrough  hw) (em_cwV C 2 mw_368 mw_369 mw_38 mw_70 mw_370 rfl rfl (by decide +kernel) (by decide)) em_nc_KS em_sh_KS rfl rfl rfl (Nat.le_of_ble_eq_true rfl) d_KS_run_66 (by decide) (fun M_18 hw => ?_)
          refine g_sub [1, 2, 0] rfl ?_
          exact j_10 M_18 hw
  exact lp_4 _ (nI 0) M_3 (Nat.lt_succ_self _) h0
theorem c_KS_run {l : Launch} {D : va_G} {b0 : Nat} {cT : Nat → ClassId} {ad : Nat → Nat} {post : em_M → Prop}  {M : em_M}  (hw : wp_KS_run post  M) : Met l y_KS_run (.code y_KS_run b_KS_run 3 none :: wAll) rm_KS_run (va_Pc [.ref (ad (51))] (em_U D b0 cT ad (SH ad) NC M)) (va_Qv post (em_U D b0 cT ad (SH ad) NC) (em_A b0)) 0 0 (em_A b0) :=
  em_met (by decide) rfl (Nat.le_of_ble_eq_true rfl) (fun X C _ _ hQ => v_KS_run  C hQ hw)
