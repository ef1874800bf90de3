/-! THE WALKS, written by wip/gen -/
set_option maxHeartbeats 4000000 in
set_option maxRecDepth 100000 in
theorem v_SL_greatestBetween {X : em_X} {D : va_G} {b0 : Nat} {cT : Nat → ClassId} {ad : Nat → Nat} {post : Int32 → Prop} {i0 : Nat} {x1 : Int32} {x2 : Int32} {M : em_M} (hi0 : i0 < 12) (C : em_Cx X D b0 cT R_SL b_SL_greatestBetween (some .int) 5 rm_SL_greatestBetween) (hQ : xQ X = MQ (xB X) (va_Qi (fun r M1 => M = M1 ∧ post r) (em_U D b0 cT ad (SH ad) NC) (em_A b0)) (xA X) (xS X) 0 0 (em_A b0)) (hw : wp_SL_greatestBetween post i0 x1 x2 M) : em_G X D b0 cT ad 5 (SH ad) NC 0 0 M 0 [(0, .ref (ad (4 + 3 * i0))), (1, .int x1), (2, .int x2)] [] := by
  unfold wp_SL_greatestBetween at hw
  refine g_iconst (v := (nI 0)) C d_SL_greatestBetween_0 (by decide) ?_
  refine g_istore_n (lv' := [(3, .int (nI 0)), (0, .ref (ad (4 + 3 * i0))), (1, .int x1), (2, .int x2)]) C 3 d_SL_greatestBetween_1 rfl (by decide) rfl ?_
  refine g_iload_n C 2 1 d_SL_greatestBetween_2 rfl rfl ?_
  refine g_istore (lv' := [(4, .int x1), (3, .int (nI 0)), (0, .ref (ad (4 + 3 * i0))), (1, .int x1), (2, .int x2)]) C d_SL_greatestBetween_3 (by decide) rfl ?_
  obtain ⟨I_1, mu_1, h0, hw⟩ := hw
  refine g_sub [2, 3, 4, 1, 0] rfl ?_
  have lp_1 : ∀ (n_1 : Nat) (x3_2 : Int32) (x4_3 : Int32) , mu_1 x3_2 x4_3 < n_1 → I_1 x3_2 x4_3 → em_G X D b0 cT ad 5 (SH ad) NC 0 0 M 5 [(0, .ref (ad (4 + 3 * i0))), (1, .int x1), (2, .int x2), (3, .int x3_2), (4, .int x4_3)] [] := by
    intro n_1
    induction n_1 with
    | zero => intro x3_2 x4_3 h; exact absurd h (Nat.not_lt_zero _)
    | succ n_1 ih_1 =>
      intro x3_2 x4_3 hn_1 hi
      have hw := hw x3_2 x4_3 hi
      refine g_iload C 4 d_SL_greatestBetween_5 rfl ?_
      refine g_iload_n C 2 2 d_SL_greatestBetween_7 rfl rfl ?_
      refine g_icmp_ge (tgt := 34) C d_SL_greatestBetween_8 (by decide) (fun hc_4 => ?_) (fun hc_4 => ?_)
      · have hw := hw.1 hc_4
        refine g_iload_n C 3 3 d_SL_greatestBetween_34 rfl rfl ?_
        exact g_iret C hQ rfl d_SL_greatestBetween_35 ⟨rfl, hw⟩
      · have hw := hw.2 hc_4
        refine g_iload_n C 3 3 d_SL_greatestBetween_11 rfl rfl ?_
        refine g_aload_n C 0 0 d_SL_greatestBetween_12 rfl rfl ?_
        refine g_getr C (4 + 3 * i0) 1 rfl d_SL_greatestBetween_13 (em_nc_SL hi0) (em_sh_SL hi0) rfl (by decide) rfl in_SL mw_93 rfl ?_
        refine g_aload_n C 0 0 d_SL_greatestBetween_16 rfl rfl ?_
        refine g_getr C (4 + 3 * i0) 0 rfl d_SL_greatestBetween_17 (em_nc_SL hi0) (em_sh_SL hi0) rfl (by decide) rfl in_SL mw_92 rfl ?_
        refine g_iload C 4 d_SL_greatestBetween_20 rfl ?_
        obtain ⟨hb_5, hw⟩ := hw
        refine g_iald C (5 + 3 * i0) rfl d_SL_greatestBetween_22 (em_nc_SLo hi0) (em_sh_SLo hi0) rfl hb_5 ?_
        obtain ⟨hb_6, hw⟩ := hw
        refine g_iald C (6 + 3 * i0) rfl d_SL_greatestBetween_23 (em_nc_SLs hi0) (em_sh_SLs hi0) rfl hb_6 ?_
        refine g_mmax C d_SL_greatestBetween_24 mw_237 mw_238 mw_73 mw_239 (by decide) (Nat.le_of_ble_eq_true rfl) (by decide) (by decide) ?_
        refine g_topi (fun x3_7 ex3_7 => ?_)
        have hw := hw x3_7 ex3_7
        refine g_istore_n (lv' := [(3, .int x3_7), (0, .ref (ad (4 + 3 * i0))), (1, .int x1), (2, .int x2), (4, .int x4_3)]) C 3 d_SL_greatestBetween_27 rfl (by decide) rfl ?_
        obtain ⟨x4_8, ex4_8⟩ : ∃ y : Int32, y = x4_3 + nI 1 := ⟨_, rfl⟩
        have hw := hw x4_8 ex4_8
        refine g_iinc (v := x4_8) (lv' := [(4, .int x4_8), (3, .int x3_7), (0, .ref (ad (4 + 3 * i0))), (1, .int x1), (2, .int x2)]) C 4 d_SL_greatestBetween_28 rfl (by rw [ex4_8]; first | rfl | (congr 1)) (by decide) rfl ?_
        refine g_goto (tgt := 5) C d_SL_greatestBetween_31 (by decide) ?_
        refine g_sub [2, 3, 4, 1, 0] rfl ?_
        exact ih_1 x3_7 x4_8 (Nat.lt_of_lt_of_le hw.2 (Nat.le_of_lt_succ hn_1)) hw.1
  exact lp_1 _ (nI 0) x1 (Nat.lt_succ_self _) h0
theorem c_SL_greatestBetween {l : Launch} {D : va_G} {b0 : Nat} {cT : Nat → ClassId} {ad : Nat → Nat} {post : Int32 → Prop} {i0 : Nat} {x1 : Int32} {x2 : Int32} {M : em_M} (hi0 : i0 < 12) (hw : wp_SL_greatestBetween post i0 x1 x2 M) : Met l y_SL_greatestBetween (.code y_SL_greatestBetween b_SL_greatestBetween 5 (some .int) :: wAll) rm_SL_greatestBetween (va_Pc [.ref (ad (4 + 3 * i0)), .int x1, .int x2] (em_U D b0 cT ad (SH ad) NC M)) (va_Qi (fun r M1 => M = M1 ∧ post r) (em_U D b0 cT ad (SH ad) NC) (em_A b0)) 0 0 (em_A b0) :=
  em_met (by decide) rfl (Nat.le_of_ble_eq_true rfl) (fun X C _ _ hQ => v_SL_greatestBetween hi0 C hQ hw)
set_option maxHeartbeats 4000000 in
set_option maxRecDepth 100000 in
theorem v_SL_greatest {X : em_X} {D : va_G} {b0 : Nat} {cT : Nat → ClassId} {ad : Nat → Nat} {post : Int32 → Prop} {i0 : Nat} {M : em_M} (hi0 : i0 < 12) (C : em_Cx X D b0 cT R_SL b_SL_greatest (some .int) 1 rm_SL_greatest) (hQ : xQ X = MQ (xB X) (va_Qi (fun r M1 => M = M1 ∧ post r) (em_U D b0 cT ad (SH ad) NC) (em_A b0)) (xA X) (xS X) 0 0 (em_A b0)) (hw : wp_SL_greatest post i0 M) : em_G X D b0 cT ad 1 (SH ad) NC 0 0 M 0 [(0, .ref (ad (4 + 3 * i0)))] [] := by
  unfold wp_SL_greatest at hw
  refine g_aload_n C 0 0 d_SL_greatest_0 rfl rfl ?_
  refine g_iconst (v := (nI 0)) C d_SL_greatest_1 (by decide) ?_
  refine g_aload_n C 0 0 d_SL_greatest_2 rfl rfl ?_
  refine g_geti C (4 + 3 * i0) 2 rfl d_SL_greatest_3 (em_nc_SL hi0) (em_sh_SL hi0) rfl (by decide) rfl in_SL mw_94 rfl ?_
  refine g_callVi C (4 + 3 * i0) rfl [.int (nI 0), .int (M (4 + 3 * i0) 2)] [] (c_SL_greatestBetween hi0 hw) (em_cwV C 2 mw_234 mw_235 mw_4 mw_66 mw_236 rfl rfl (by decide +kernel) (by decide)) (em_nc_SL hi0) (em_sh_SL hi0) rfl rfl rfl (Nat.le_of_ble_eq_true rfl) d_SL_greatest_6 (by decide) (fun r_2 M_1 hw => ?_)
  obtain ⟨rfl, hw⟩ := hw
  exact g_iret C hQ rfl d_SL_greatest_9 ⟨rfl, hw⟩
theorem c_SL_greatest {l : Launch} {D : va_G} {b0 : Nat} {cT : Nat → ClassId} {ad : Nat → Nat} {post : Int32 → Prop} {i0 : Nat} {M : em_M} (hi0 : i0 < 12) (hw : wp_SL_greatest post i0 M) : Met l y_SL_greatest (.code y_SL_greatest b_SL_greatest 1 (some .int) :: wAll) rm_SL_greatest (va_Pc [.ref (ad (4 + 3 * i0))] (em_U D b0 cT ad (SH ad) NC M)) (va_Qi (fun r M1 => M = M1 ∧ post r) (em_U D b0 cT ad (SH ad) NC) (em_A b0)) 0 0 (em_A b0) :=
  em_met (by decide) rfl (Nat.le_of_ble_eq_true rfl) (fun X C _ _ hQ => v_SL_greatest hi0 C hQ hw)
set_option maxHeartbeats 4000000 in
set_option maxRecDepth 100000 in
theorem v_LW_begin {X : em_X} {D : va_G} {b0 : Nat} {cT : Nat → ClassId} {ad : Nat → Nat} {post : em_M → Prop}  {M : em_M}  (C : em_Cx X D b0 cT R_LW b_LW_begin none 2 rm_LW_begin) (hQ : xQ X = MQ (xB X) (va_Qv post (em_U D b0 cT ad (SH ad) NC) (em_A b0)) (xA X) (xS X) 0 0 (em_A b0)) (hw : wp_LW_begin post  M) : em_G X D b0 cT ad 2 (SH ad) NC 0 0 M 0 [(0, .ref (ad (48)))] [] := by
  unfold wp_LW_begin at hw
  refine g_aload_n C 0 0 d_LW_begin_0 rfl rfl ?_
  refine g_getr C 48 2 rfl d_LW_begin_1 em_nc_LW em_sh_LW rfl (by decide) rfl in_LW mw_146 rfl ?_
  refine g_aload_n C 0 0 d_LW_begin_4 rfl rfl ?_
  refine g_getr C 48 1 rfl d_LW_begin_5 em_nc_LW em_sh_LW rfl (by decide) rfl in_LW mw_145 rfl ?_
  refine g_getiN C 40 3 rfl d_LW_begin_8 em_nc_QU em_sh_QU rfl (by decide) rfl in_QU mn_15 rfl ?_
  refine g_callVNv C 43 rfl [.int (M (40) 3)] [] (c_RK_begin  hw) (em_cnB C 1 mn_48 mw_68 mw_291 rfl rfl (by decide +kernel) (by decide)) mw_290 mw_13 em_nc_RK em_sh_RK rfl rfl rfl (Nat.le_of_ble_eq_true rfl) d_LW_begin_11 (by decide) (fun M_1 hw => ?_)
  refine g_iconst (v := (nI 0)) C d_LW_begin_14 (by decide) ?_
  refine g_istore_n (lv' := [(1, .int (nI 0)), (0, .ref (ad (48)))]) C 1 d_LW_begin_15 rfl (by decide) rfl ?_
  obtain ⟨I_2, mu_2, h0, hw⟩ := hw
  refine g_sub [1, 0] rfl ?_
  have lp_2 : ∀ (n_2 : Nat) (x1_3 : Int32) (M_4 : em_M) , mu_2 x1_3 M_4 < n_2 → I_2 x1_3 M_4 → em_G X D b0 cT ad 2 (SH ad) NC 0 0 M_4 16 [(0, .ref (ad (48))), (1, .int x1_3)] [] := by
    intro n_2
    induction n_2 with
    | zero => intro x1_3 M_4 h; exact absurd h (Nat.not_lt_zero _)
    | succ n_2 ih_2 =>
      intro x1_3 M_4 hn_2 hi
      have hw := hw x1_3 M_4 hi
      refine g_iload_n C 1 1 d_LW_begin_16 rfl rfl ?_
      refine g_bipush (v := (nI 12)) C d_LW_begin_17 (by decide) ?_
      refine g_icmp_ge (tgt := 63) C d_LW_begin_19 (by decide) (fun hc_5 => ?_) (fun hc_5 => ?_)
      · have hw := hw.1 hc_5
        refine g_aload_n C 0 0 d_LW_begin_63 rfl rfl ?_
        refine g_iconst (v := (nI 0)) C d_LW_begin_64 (by decide) ?_
        refine g_puti C 48 5 rfl ty_LW tyok_LW nm_LW d_LW_begin_65 em_nc_LW em_sh_LW rfl (by decide) rfl in_LW mw_149 rfl rfl rfl rfl rfl ?_
        refine g_nameM (fun M_6 eM_6 => ?_)
        have hw := hw M_6 eM_6
        refine g_aload_n C 0 0 d_LW_begin_68 rfl rfl ?_
        refine g_iconst (v := (nI 0)) C d_LW_begin_69 (by decide) ?_
        refine g_puti C 48 6 rfl ty_LW tyok_LW nm_LW d_LW_begin_70 em_nc_LW em_sh_LW rfl (by decide) rfl in_LW mw_150 rfl rfl rfl rfl rfl ?_
        refine g_nameM (fun M_7 eM_7 => ?_)
        have hw := hw M_7 eM_7
        refine g_aload_n C 0 0 d_LW_begin_73 rfl rfl ?_
        refine g_iconst (v := (nI 0)) C d_LW_begin_74 (by decide) ?_
        refine g_puti C 48 7 rfl ty_LW tyok_LW nm_LW d_LW_begin_75 em_nc_LW em_sh_LW rfl (by decide) rfl in_LW mw_151 rfl rfl rfl rfl rfl ?_
        refine g_nameM (fun M_8 eM_8 => ?_)
        have hw := hw M_8 eM_8
        refine g_aload_n C 0 0 d_LW_begin_78 rfl rfl ?_
        refine g_iconst (v := (nI 0)) C d_LW_begin_79 (by decide) ?_
        refine g_puti C 48 8 rfl ty_LW tyok_LW nm_LW d_LW_begin_80 em_nc_LW em_sh_LW rfl (by decide) rfl in_LW mw_152 rfl rfl rfl rfl rfl ?_
        refine g_nameM (fun M_9 eM_9 => ?_)
        have hw := hw M_9 eM_9
        refine g_aload_n C 0 0 d_LW_begin_83 rfl rfl ?_
        refine g_iconst (v := (nI 2)) C d_LW_begin_84 (by decide) ?_
        refine g_puti C 48 9 rfl ty_LW tyok_LW nm_LW d_LW_begin_85 em_nc_LW em_sh_LW rfl (by decide) rfl in_LW mw_153 rfl rfl rfl rfl rfl ?_
        refine g_nameM (fun M_10 eM_10 => ?_)
        have hw := hw M_10 eM_10
        exact g_vret C hQ rfl d_LW_begin_88 hw
      · have hw := hw.2 hc_5
        refine g_aload_n C 0 0 d_LW_begin_22 rfl rfl ?_
        refine g_getr C 48 3 rfl d_LW_begin_23 em_nc_LW em_sh_LW rfl (by decide) rfl in_LW mw_147 rfl ?_
        refine g_iload_n C 1 1 d_LW_begin_26 rfl rfl ?_
        refine g_iconst (v := (nI 0)) C d_LW_begin_27 (by decide) ?_
        obtain ⟨hb_11, hw⟩ := hw
        refine g_iast C 49 rfl d_LW_begin_28 em_nc_at em_sh_at rfl hb_11 ?_
        refine g_nameM (fun M_12 eM_12 => ?_)
        have hw := hw M_12 eM_12
        refine g_aload_n C 0 0 d_LW_begin_29 rfl rfl ?_
        refine g_getr C 48 4 rfl d_LW_begin_30 em_nc_LW em_sh_LW rfl (by decide) rfl in_LW mw_148 rfl ?_
        refine g_iload_n C 1 1 d_LW_begin_33 rfl rfl ?_
        refine g_aload_n C 0 0 d_LW_begin_34 rfl rfl ?_
        refine g_getr C 48 1 rfl d_LW_begin_35 em_nc_LW em_sh_LW rfl (by decide) rfl in_LW mw_145 rfl ?_
        refine g_getrN C 40 2 rfl d_LW_begin_38 em_nc_QU em_sh_QU rfl (by decide) rfl in_QU mn_12 rfl ?_
        refine g_iload_n C 1 1 d_LW_begin_41 rfl rfl ?_
        refine g_iald C 42 rfl d_LW_begin_42 em_nc_weights em_sh_weights rfl hb_11 ?_
        refine g_aload_n C 0 0 d_LW_begin_43 rfl rfl ?_
        refine g_getr C 48 0 rfl d_LW_begin_44 em_nc_LW em_sh_LW rfl (by decide) rfl in_LW mw_144 rfl ?_
        refine g_getrN C 1 0 rfl d_LW_begin_47 em_nc_SF em_sh_SF rfl (by decide) rfl in_SF mn_5 rfl ?_
        refine g_iload_n C 1 1 d_LW_begin_50 rfl rfl ?_
        refine g_aald C 2 rfl d_LW_begin_51 em_nc_lists em_sh_lists rfl hb_11 rfl ?_
        refine g_callVNi C (4 + 3 * x1_3.toNatClampNeg) rfl [] [.int (M_12 (42) x1_3.toNatClampNeg), .int x1_3, .ref (ad (50))] (c_SL_greatest (em_pos hb_11) hw) (em_cnB C 0 mn_49 mw_66 mw_233 rfl rfl (by decide +kernel) (by decide)) mw_232 mw_3 (em_nc_SL (em_pos hb_11)) (em_sh_SL (em_pos hb_11)) rfl rfl rfl (Nat.le_of_ble_eq_true rfl) d_LW_begin_52 (by decide) (fun r_14 M_13 hw => ?_)
        obtain ⟨rfl, hw⟩ := hw
        refine g_imul C d_LW_begin_55 ?_
        refine g_iast C 50 rfl d_LW_begin_56 em_nc_bounds em_sh_bounds rfl hb_11 ?_
        refine g_nameM (fun M_15 eM_15 => ?_)
        have hw := hw M_15 eM_15
        obtain ⟨x1_16, ex1_16⟩ : ∃ y : Int32, y = x1_3 + nI 1 := ⟨_, rfl⟩
        have hw := hw x1_16 ex1_16
        refine g_iinc (v := x1_16) (lv' := [(1, .int x1_16), (0, .ref (ad (48)))]) C 1 d_LW_begin_57 rfl (by rw [ex1_16]; first | rfl | (congr 1)) (by decide) rfl ?_
        refine g_goto (tgt := 16) C d_LW_begin_60 (by decide) ?_
        refine g_sub [1, 0] rfl ?_
        exact ih_2 x1_16 M_15 (Nat.lt_of_lt_of_le hw.2 (Nat.le_of_lt_succ hn_2)) hw.1
  exact lp_2 _ (nI 0) M_1 (Nat.lt_succ_self _) h0
theorem c_LW_begin {l : Launch} {D : va_G} {b0 : Nat} {cT : Nat → ClassId} {ad : Nat → Nat} {post : em_M → Prop}  {M : em_M}  (hw : wp_LW_begin post  M) : Met l y_LW_begin (.code y_LW_begin b_LW_begin 2 none :: wAll) rm_LW_begin (va_Pc [.ref (ad (48))] (em_U D b0 cT ad (SH ad) NC M)) (va_Qv post (em_U D b0 cT ad (SH ad) NC) (em_A b0)) 0 0 (em_A b0) :=
  em_met (by decide) rfl (Nat.le_of_ble_eq_true rfl) (fun X C _ _ hQ => v_LW_begin  C hQ hw)
set_option maxHeartbeats 4000000 in
set_option maxRecDepth 100000 in
theorem v_SL_objectAt {X : em_X} {D : va_G} {b0 : Nat} {cT : Nat → ClassId} {ad : Nat → Nat} {post : Int32 → Prop} {i0 : Nat} {x1 : Int32} {M : em_M} (hi0 : i0 < 12) (C : em_Cx X D b0 cT R_SL b_SL_objectAt (some .int) 2 rm_SL_objectAt) (hQ : xQ X = MQ (xB X) (va_Qi (fun r M1 => M = M1 ∧ post r) (em_U D b0 cT ad (SH ad) NC) (em_A b0)) (xA X) (xS X) 0 0 (em_A b0)) (hw : wp_SL_objectAt post i0 x1 M) : em_G X D b0 cT ad 2 (SH ad) NC 0 0 M 0 [(0, .ref (ad (4 + 3 * i0))), (1, .int x1)] [] := by
  unfold wp_SL_objectAt at hw
  refine g_iload_n C 1 1 d_SL_objectAt_0 rfl rfl ?_
  refine g_if_lt (tgt := 21) C d_SL_objectAt_1 (by decide) (fun hc_1 => ?_) (fun hc_1 => ?_)
  · have hw := hw.1 hc_1
    refine g_sipush (v := (nI 512)) C d_SL_objectAt_21 (by decide) ?_
    exact g_iret C hQ rfl d_SL_objectAt_24 ⟨rfl, hw⟩
  · have hw := hw.2 hc_1
    refine g_iload_n C 1 1 d_SL_objectAt_4 rfl rfl ?_
    refine g_aload_n C 0 0 d_SL_objectAt_5 rfl rfl ?_
    refine g_geti C (4 + 3 * i0) 2 rfl d_SL_objectAt_6 (em_nc_SL hi0) (em_sh_SL hi0) rfl (by decide) rfl in_SL mw_94 rfl ?_
    refine g_icmp_ge (tgt := 21) C d_SL_objectAt_9 (by decide) (fun hc_2 => ?_) (fun hc_2 => ?_)
    · have hw := hw.1 hc_2
      refine g_sipush (v := (nI 512)) C d_SL_objectAt_21 (by decide) ?_
      exact g_iret C hQ rfl d_SL_objectAt_24 ⟨rfl, hw⟩
    · have hw := hw.2 hc_2
      refine g_aload_n C 0 0 d_SL_objectAt_12 rfl rfl ?_
      refine g_getr C (4 + 3 * i0) 0 rfl d_SL_objectAt_13 (em_nc_SL hi0) (em_sh_SL hi0) rfl (by decide) rfl in_SL mw_92 rfl ?_
      refine g_iload_n C 1 1 d_SL_objectAt_16 rfl rfl ?_
      obtain ⟨hb_3, hw⟩ := hw
      refine g_iald C (5 + 3 * i0) rfl d_SL_objectAt_17 (em_nc_SLo hi0) (em_sh_SLo hi0) rfl hb_3 ?_
      refine g_goto (tgt := 24) C d_SL_objectAt_18 (by decide) ?_
      exact g_iret C hQ rfl d_SL_objectAt_24 ⟨rfl, hw⟩
theorem c_SL_objectAt {l : Launch} {D : va_G} {b0 : Nat} {cT : Nat → ClassId} {ad : Nat → Nat} {post : Int32 → Prop} {i0 : Nat} {x1 : Int32} {M : em_M} (hi0 : i0 < 12) (hw : wp_SL_objectAt post i0 x1 M) : Met l y_SL_objectAt (.code y_SL_objectAt b_SL_objectAt 2 (some .int) :: wAll) rm_SL_objectAt (va_Pc [.ref (ad (4 + 3 * i0)), .int x1] (em_U D b0 cT ad (SH ad) NC M)) (va_Qi (fun r M1 => M = M1 ∧ post r) (em_U D b0 cT ad (SH ad) NC) (em_A b0)) 0 0 (em_A b0) :=
  em_met (by decide) rfl (Nat.le_of_ble_eq_true rfl) (fun X C _ _ hQ => v_SL_objectAt hi0 C hQ hw)
set_option maxHeartbeats 4000000 in
set_option maxRecDepth 100000 in
theorem v_LW_standing {X : em_X} {D : va_G} {b0 : Nat} {cT : Nat → ClassId} {ad : Nat → Nat} {post : Int32 → Prop} {x1 : Int32} {M : em_M}  (C : em_Cx X D b0 cT R_LW b_LW_standing (some .int) 2 rm_LW_standing) (hQ : xQ X = MQ (xB X) (va_Qi (fun r M1 => M = M1 ∧ post r) (em_U D b0 cT ad (SH ad) NC) (em_A b0)) (xA X) (xS X) 0 0 (em_A b0)) (hw : wp_LW_standing post x1 M) : em_G X D b0 cT ad 2 (SH ad) NC 0 0 M 0 [(0, .ref (ad (48))), (1, .int x1)] [] := by
  unfold wp_LW_standing at hw
  refine g_aload_n C 0 0 d_LW_standing_0 rfl rfl ?_
  refine g_getr C 48 1 rfl d_LW_standing_1 em_nc_LW em_sh_LW rfl (by decide) rfl in_LW mw_145 rfl ?_
  refine g_iload_n C 1 1 d_LW_standing_4 rfl rfl ?_
  refine g_callVNi C 40 rfl [.int x1] [] (c_QU_asksFor  hw) (em_cnB C 1 mn_50 mw_67 mw_270 rfl rfl (by decide +kernel) (by decide)) mw_269 mw_9 em_nc_QU em_sh_QU rfl rfl rfl (Nat.le_of_ble_eq_true rfl) d_LW_standing_5 (by decide) (fun r_2 M_1 hw => ?_)
  obtain ⟨rfl, hw⟩ := hw
  refine g_if_eq (tgt := 32) C d_LW_standing_8 (by decide) (fun hc_3 => ?_) (fun hc_3 => ?_)
  · have hw := hw.1 hc_3
    refine g_sipush (v := (nI 512)) C d_LW_standing_32 (by decide) ?_
    exact g_iret C hQ rfl d_LW_standing_35 ⟨rfl, hw⟩
  · have hw := hw.2 hc_3
    refine g_aload_n C 0 0 d_LW_standing_11 rfl rfl ?_
    refine g_getr C 48 0 rfl d_LW_standing_12 em_nc_LW em_sh_LW rfl (by decide) rfl in_LW mw_144 rfl ?_
    refine g_getrN C 1 0 rfl d_LW_standing_15 em_nc_SF em_sh_SF rfl (by decide) rfl in_SF mn_5 rfl ?_
    refine g_iload_n C 1 1 d_LW_standing_18 rfl rfl ?_
    obtain ⟨hb_4, hw⟩ := hw
    refine g_aald C 2 rfl d_LW_standing_19 em_nc_lists em_sh_lists rfl hb_4 rfl ?_
    refine g_aload_n C 0 0 d_LW_standing_20 rfl rfl ?_
    refine g_getr C 48 3 rfl d_LW_standing_21 em_nc_LW em_sh_LW rfl (by decide) rfl in_LW mw_147 rfl ?_
    refine g_iload_n C 1 1 d_LW_standing_24 rfl rfl ?_
    refine g_iald C 49 rfl d_LW_standing_25 em_nc_at em_sh_at rfl hb_4 ?_
    refine g_callVNi C (4 + 3 * x1.toNatClampNeg) rfl [.int (M (49) x1.toNatClampNeg)] [] (c_SL_objectAt (em_pos hb_4) hw) (em_cnB C 1 mn_51 mw_66 mw_306 rfl rfl (by decide +kernel) (by decide)) mw_305 mw_18 (em_nc_SL (em_pos hb_4)) (em_sh_SL (em_pos hb_4)) rfl rfl rfl (Nat.le_of_ble_eq_true rfl) d_LW_standing_26 (by decide) (fun r_6 M_5 hw => ?_)
    obtain ⟨rfl, hw⟩ := hw
    refine g_goto (tgt := 35) C d_LW_standing_29 (by decide) ?_
    exact g_iret C hQ rfl d_LW_standing_35 ⟨rfl, hw⟩
theorem c_LW_standing {l : Launch} {D : va_G} {b0 : Nat} {cT : Nat → ClassId} {ad : Nat → Nat} {post : Int32 → Prop} {x1 : Int32} {M : em_M}  (hw : wp_LW_standing post x1 M) : Met l y_LW_standing (.code y_LW_standing b_LW_standing 2 (some .int) :: wAll) rm_LW_standing (va_Pc [.ref (ad (48)), .int x1] (em_U D b0 cT ad (SH ad) NC M)) (va_Qi (fun r M1 => M = M1 ∧ post r) (em_U D b0 cT ad (SH ad) NC) (em_A b0)) 0 0 (em_A b0) :=
  em_met (by decide) rfl (Nat.le_of_ble_eq_true rfl) (fun X C _ _ hQ => v_LW_standing  C hQ hw)
set_option maxHeartbeats 4000000 in
set_option maxRecDepth 100000 in
theorem v_LW_leastObject {X : em_X} {D : va_G} {b0 : Nat} {cT : Nat → ClassId} {ad : Nat → Nat} {post : Int32 → Prop}  {M : em_M}  (C : em_Cx X D b0 cT R_LW b_LW_leastObject (some .int) 3 rm_LW_leastObject) (hQ : xQ X = MQ (xB X) (va_Qi (fun r M1 => M = M1 ∧ post r) (em_U D b0 cT ad (SH ad) NC) (em_A b0)) (xA X) (xS X) 0 0 (em_A b0)) (hw : wp_LW_leastObject post  M) : em_G X D b0 cT ad 3 (SH ad) NC 0 0 M 0 [(0, .ref (ad (48)))] [] := by
  unfold wp_LW_leastObject at hw
  refine g_sipush (v := (nI 512)) C d_LW_leastObject_0 (by decide) ?_
  refine g_istore_n (lv' := [(1, .int (nI 512)), (0, .ref (ad (48)))]) C 1 d_LW_leastObject_3 rfl (by decide) rfl ?_
  refine g_iconst (v := (nI 0)) C d_LW_leastObject_4 (by decide) ?_
  refine g_istore_n (lv' := [(2, .int (nI 0)), (1, .int (nI 512)), (0, .ref (ad (48)))]) C 2 d_LW_leastObject_5 rfl (by decide) rfl ?_
  obtain ⟨I_1, mu_1, h0, hw⟩ := hw
  refine g_sub [2, 1, 0] rfl ?_
  have lp_1 : ∀ (n_1 : Nat) (x1_2 : Int32) (x2_3 : Int32) , mu_1 x1_2 x2_3 < n_1 → I_1 x1_2 x2_3 → em_G X D b0 cT ad 3 (SH ad) NC 0 0 M 6 [(0, .ref (ad (48))), (1, .int x1_2), (2, .int x2_3)] [] := by
    intro n_1
    induction n_1 with
    | zero => intro x1_2 x2_3 h; exact absurd h (Nat.not_lt_zero _)
    | succ n_1 ih_1 =>
      intro x1_2 x2_3 hn_1 hi
      have hw := hw x1_2 x2_3 hi
      refine g_iload_n C 2 2 d_LW_leastObject_6 rfl rfl ?_
      refine g_bipush (v := (nI 12)) C d_LW_leastObject_7 (by decide) ?_
      refine g_icmp_ge (tgt := 28) C d_LW_leastObject_9 (by decide) (fun hc_4 => ?_) (fun hc_4 => ?_)
      · have hw := hw.1 hc_4
        refine g_iload_n C 1 1 d_LW_leastObject_28 rfl rfl ?_
        exact g_iret C hQ rfl d_LW_leastObject_29 ⟨rfl, hw⟩
      · have hw := hw.2 hc_4
        refine g_iload_n C 1 1 d_LW_leastObject_12 rfl rfl ?_
        refine g_aload_n C 0 0 d_LW_leastObject_13 rfl rfl ?_
        refine g_iload_n C 2 2 d_LW_leastObject_14 rfl rfl ?_
        refine g_callVi C 48 rfl [.int x2_3] [.int x1_2] (c_LW_standing  hw) (em_cwV C 1 mw_302 mw_303 mw_17 mw_69 mw_304 rfl rfl (by decide +kernel) (by decide)) em_nc_LW em_sh_LW rfl rfl rfl (Nat.le_of_ble_eq_true rfl) d_LW_leastObject_15 (by decide) (fun r_6 M_5 hw => ?_)
        obtain ⟨rfl, hw⟩ := hw
        refine g_mmin C d_LW_leastObject_18 mw_307 mw_248 mw_73 mw_249 (by decide) (Nat.le_of_ble_eq_true rfl) (by decide) (by decide) ?_
        refine g_topi (fun x1_7 ex1_7 => ?_)
        have hw := hw x1_7 ex1_7
        refine g_istore_n (lv' := [(1, .int x1_7), (0, .ref (ad (48))), (2, .int x2_3)]) C 1 d_LW_leastObject_21 rfl (by decide) rfl ?_
        obtain ⟨x2_8, ex2_8⟩ : ∃ y : Int32, y = x2_3 + nI 1 := ⟨_, rfl⟩
        have hw := hw x2_8 ex2_8
        refine g_iinc (v := x2_8) (lv' := [(2, .int x2_8), (1, .int x1_7), (0, .ref (ad (48)))]) C 2 d_LW_leastObject_22 rfl (by rw [ex2_8]; first | rfl | (congr 1)) (by decide) rfl ?_
        refine g_goto (tgt := 6) C d_LW_leastObject_25 (by decide) ?_
        refine g_sub [2, 1, 0] rfl ?_
        exact ih_1 x1_7 x2_8 (Nat.lt_of_lt_of_le hw.2 (Nat.le_of_lt_succ hn_1)) hw.1
  exact lp_1 _ (nI 512) (nI 0) (Nat.lt_succ_self _) h0
theorem c_LW_leastObject {l : Launch} {D : va_G} {b0 : Nat} {cT : Nat → ClassId} {ad : Nat → Nat} {post : Int32 → Prop}  {M : em_M}  (hw : wp_LW_leastObject post  M) : Met l y_LW_leastObject (.code y_LW_leastObject b_LW_leastObject 3 (some .int) :: wAll) rm_LW_leastObject (va_Pc [.ref (ad (48))] (em_U D b0 cT ad (SH ad) NC M)) (va_Qi (fun r M1 => M = M1 ∧ post r) (em_U D b0 cT ad (SH ad) NC) (em_A b0)) 0 0 (em_A b0) :=
  em_met (by decide) rfl (Nat.le_of_ble_eq_true rfl) (fun X C _ _ hQ => v_LW_leastObject  C hQ hw)
set_option maxHeartbeats 4000000 in
set_option maxRecDepth 100000 in
theorem v_LW_greatestNeeded {X : em_X} {D : va_G} {b0 : Nat} {cT : Nat → ClassId} {ad : Nat → Nat} {post : Int32 → Prop}  {M : em_M}  (C : em_Cx X D b0 cT R_LW b_LW_greatestNeeded (some .int) 3 rm_LW_greatestNeeded) (hQ : xQ X = MQ (xB X) (va_Qi (fun r M1 => M = M1 ∧ post r) (em_U D b0 cT ad (SH ad) NC) (em_A b0)) (xA X) (xS X) 0 0 (em_A b0)) (hw : wp_LW_greatestNeeded post  M) : em_G X D b0 cT ad 3 (SH ad) NC 0 0 M 0 [(0, .ref (ad (48)))] [] := by
  unfold wp_LW_greatestNeeded at hw
  refine g_iconst (v := (-1 : Int32)) C d_LW_greatestNeeded_0 (by decide) ?_
  refine g_istore_n (lv' := [(1, .int (-1 : Int32)), (0, .ref (ad (48)))]) C 1 d_LW_greatestNeeded_1 rfl (by decide) rfl ?_
  refine g_iconst (v := (nI 0)) C d_LW_greatestNeeded_2 (by decide) ?_
  refine g_istore_n (lv' := [(2, .int (nI 0)), (1, .int (-1 : Int32)), (0, .ref (ad (48)))]) C 2 d_LW_greatestNeeded_3 rfl (by decide) rfl ?_
  obtain ⟨I_1, mu_1, h0, hw⟩ := hw
  refine g_sub [2, 1, 0] rfl ?_
  have lp_1 : ∀ (n_1 : Nat) (x1_2 : Int32) (x2_3 : Int32) , mu_1 x1_2 x2_3 < n_1 → I_1 x1_2 x2_3 → em_G X D b0 cT ad 3 (SH ad) NC 0 0 M 4 [(0, .ref (ad (48))), (1, .int x1_2), (2, .int x2_3)] [] := by
    intro n_1
    induction n_1 with
    | zero => intro x1_2 x2_3 h; exact absurd h (Nat.not_lt_zero _)
    | succ n_1 ih_1 =>
      intro x1_2 x2_3 hn_1 hi
      have hw := hw x1_2 x2_3 hi
      refine g_iload_n C 2 2 d_LW_greatestNeeded_4 rfl rfl ?_
      refine g_bipush (v := (nI 12)) C d_LW_greatestNeeded_5 (by decide) ?_
      refine g_icmp_ge (tgt := 39) C d_LW_greatestNeeded_7 (by decide) (fun hc_4 => ?_) (fun hc_4 => ?_)
      · have hw := hw.1 hc_4
        refine g_iload_n C 1 1 d_LW_greatestNeeded_39 rfl rfl ?_
        exact g_iret C hQ rfl d_LW_greatestNeeded_40 ⟨rfl, hw⟩
      · have hw := hw.2 hc_4
        refine g_aload_n C 0 0 d_LW_greatestNeeded_10 rfl rfl ?_
        refine g_getr C 48 1 rfl d_LW_greatestNeeded_11 em_nc_LW em_sh_LW rfl (by decide) rfl in_LW mw_145 rfl ?_
        refine g_getrN C 40 1 rfl d_LW_greatestNeeded_14 em_nc_QU em_sh_QU rfl (by decide) rfl in_QU mn_11 rfl ?_
        refine g_iload_n C 2 2 d_LW_greatestNeeded_17 rfl rfl ?_
        obtain ⟨hb_5, hw⟩ := hw
        refine g_iald C 41 rfl d_LW_greatestNeeded_18 em_nc_sorts em_sh_sorts rfl hb_5 ?_
        refine g_iconst (v := (nI 2)) C d_LW_greatestNeeded_19 (by decide) ?_
        obtain ⟨J_6, hJ_6, hw⟩ := em_jn1 hw
        have j_6 : ∀ (x1_11 : Int32) , J_6 x1_11 → em_G X D b0 cT ad 3 (SH ad) NC 0 0 M 33 [(0, .ref (ad (48))), (1, .int x1_11), (2, .int x2_3)] [] := by
          intro x1_11 hw
          have hw := hJ_6 x1_11 hw
          obtain ⟨x2_12, ex2_12⟩ : ∃ y : Int32, y = x2_3 + nI 1 := ⟨_, rfl⟩
          have hw := hw x2_12 ex2_12
          refine g_iinc (v := x2_12) (lv' := [(2, .int x2_12), (0, .ref (ad (48))), (1, .int x1_11)]) C 2 d_LW_greatestNeeded_33 rfl (by rw [ex2_12]; first | rfl | (congr 1)) (by decide) rfl ?_
          refine g_goto (tgt := 4) C d_LW_greatestNeeded_36 (by decide) ?_
          refine g_sub [1, 2, 0] rfl ?_
          exact ih_1 x1_11 x2_12 (Nat.lt_of_lt_of_le hw.2 (Nat.le_of_lt_succ hn_1)) hw.1
        refine g_icmp_ne (tgt := 33) C d_LW_greatestNeeded_20 (by decide) (fun hc_13 => ?_) (fun hc_13 => ?_)
        · have hw := hw.1 hc_13
          refine g_sub [0, 1, 2] rfl ?_
          exact j_6 x1_2 hw
        · have hw := hw.2 hc_13
          refine g_iload_n C 1 1 d_LW_greatestNeeded_23 rfl rfl ?_
          refine g_aload_n C 0 0 d_LW_greatestNeeded_24 rfl rfl ?_
          refine g_iload_n C 2 2 d_LW_greatestNeeded_25 rfl rfl ?_
          refine g_callVi C 48 rfl [.int x2_3] [.int x1_2] (c_LW_standing  hw) (em_cwV C 1 mw_302 mw_303 mw_17 mw_69 mw_304 rfl rfl (by decide +kernel) (by decide)) em_nc_LW em_sh_LW rfl rfl rfl (Nat.le_of_ble_eq_true rfl) d_LW_greatestNeeded_26 (by decide) (fun r_15 M_14 hw => ?_)
          obtain ⟨rfl, hw⟩ := hw
          refine g_mmax C d_LW_greatestNeeded_29 mw_311 mw_238 mw_73 mw_239 (by decide) (Nat.le_of_ble_eq_true rfl) (by decide) (by decide) ?_
          refine g_topi (fun x1_16 ex1_16 => ?_)
          have hw := hw x1_16 ex1_16
          refine g_istore_n (lv' := [(1, .int x1_16), (0, .ref (ad (48))), (2, .int x2_3)]) C 1 d_LW_greatestNeeded_32 rfl (by decide) rfl ?_
          refine g_sub [1, 0, 2] rfl ?_
          exact j_6 x1_16 hw
  exact lp_1 _ (-1 : Int32) (nI 0) (Nat.lt_succ_self _) h0
theorem c_LW_greatestNeeded {l : Launch} {D : va_G} {b0 : Nat} {cT : Nat → ClassId} {ad : Nat → Nat} {post : Int32 → Prop}  {M : em_M}  (hw : wp_LW_greatestNeeded post  M) : Met l y_LW_greatestNeeded (.code y_LW_greatestNeeded b_LW_greatestNeeded 3 (some .int) :: wAll) rm_LW_greatestNeeded (va_Pc [.ref (ad (48))] (em_U D b0 cT ad (SH ad) NC M)) (va_Qi (fun r M1 => M = M1 ∧ post r) (em_U D b0 cT ad (SH ad) NC) (em_A b0)) 0 0 (em_A b0) :=
  em_met (by decide) rfl (Nat.le_of_ble_eq_true rfl) (fun X C _ _ hQ => v_LW_greatestNeeded  C hQ hw)
set_option maxHeartbeats 4000000 in
set_option maxRecDepth 100000 in
theorem v_LW_isAtEnd {X : em_X} {D : va_G} {b0 : Nat} {cT : Nat → ClassId} {ad : Nat → Nat} {post : Int32 → Prop}  {M : em_M}  (C : em_Cx X D b0 cT R_LW b_LW_isAtEnd (some .boolean) 1 rm_LW_isAtEnd) (hQ : xQ X = MQ (xB X) (va_Qi (fun r M1 => M = M1 ∧ post r) (em_U D b0 cT ad (SH ad) NC) (em_A b0)) (xA X) (xS X) 0 0 (em_A b0)) (hw : wp_LW_isAtEnd post  M) : em_G X D b0 cT ad 1 (SH ad) NC 0 0 M 0 [(0, .ref (ad (48)))] [] := by
  unfold wp_LW_isAtEnd at hw
  refine g_aload_n C 0 0 d_LW_isAtEnd_0 rfl rfl ?_
  refine g_callVi C 48 rfl [] [] (c_LW_leastObject  hw) (em_cwV C 0 mw_299 mw_300 mw_16 mw_69 mw_301 rfl rfl (by decide +kernel) (by decide)) em_nc_LW em_sh_LW rfl rfl rfl (Nat.le_of_ble_eq_true rfl) d_LW_isAtEnd_1 (by decide) (fun r_2 M_1 hw => ?_)
  obtain ⟨rfl, hw⟩ := hw
  refine g_sipush (v := (nI 512)) C d_LW_isAtEnd_4 (by decide) ?_
  refine g_icmp_eq (tgt := 20) C d_LW_isAtEnd_7 (by decide) (fun hc_3 => ?_) (fun hc_3 => ?_)
  · have hw := hw.1 hc_3
    refine g_iconst (v := (nI 1)) C d_LW_isAtEnd_20 (by decide) ?_
    refine g_goto (tgt := 25) C d_LW_isAtEnd_21 (by decide) ?_
    exact g_zret C hQ rfl rfl d_LW_isAtEnd_25 ⟨rfl, hw⟩
  · have hw := hw.2 hc_3
    refine g_aload_n C 0 0 d_LW_isAtEnd_10 rfl rfl ?_
    refine g_callVi C 48 rfl [] [] (c_LW_greatestNeeded  hw) (em_cwV C 0 mw_308 mw_309 mw_19 mw_69 mw_310 rfl rfl (by decide +kernel) (by decide)) em_nc_LW em_sh_LW rfl rfl rfl (Nat.le_of_ble_eq_true rfl) d_LW_isAtEnd_11 (by decide) (fun r_5 M_4 hw => ?_)
    obtain ⟨rfl, hw⟩ := hw
    refine g_sipush (v := (nI 512)) C d_LW_isAtEnd_14 (by decide) ?_
    refine g_icmp_ne (tgt := 24) C d_LW_isAtEnd_17 (by decide) (fun hc_6 => ?_) (fun hc_6 => ?_)
    · have hw := hw.1 hc_6
      refine g_iconst (v := (nI 0)) C d_LW_isAtEnd_24 (by decide) ?_
      exact g_zret C hQ rfl rfl d_LW_isAtEnd_25 ⟨rfl, hw⟩
    · have hw := hw.2 hc_6
      refine g_iconst (v := (nI 1)) C d_LW_isAtEnd_20 (by decide) ?_
      refine g_goto (tgt := 25) C d_LW_isAtEnd_21 (by decide) ?_
      exact g_zret C hQ rfl rfl d_LW_isAtEnd_25 ⟨rfl, hw⟩
theorem c_LW_isAtEnd {l : Launch} {D : va_G} {b0 : Nat} {cT : Nat → ClassId} {ad : Nat → Nat} {post : Int32 → Prop}  {M : em_M}  (hw : wp_LW_isAtEnd post  M) : Met l y_LW_isAtEnd (.code y_LW_isAtEnd b_LW_isAtEnd 1 (some .boolean) :: wAll) rm_LW_isAtEnd (va_Pc [.ref (ad (48))] (em_U D b0 cT ad (SH ad) NC M)) (va_Qi (fun r M1 => M = M1 ∧ post r) (em_U D b0 cT ad (SH ad) NC) (em_A b0)) 0 0 (em_A b0) :=
  em_met (by decide) rfl (Nat.le_of_ble_eq_true rfl) (fun X C _ _ hQ => v_LW_isAtEnd  C hQ hw)
set_option maxHeartbeats 4000000 in
set_option maxRecDepth 100000 in
theorem v_LW_floor {X : em_X} {D : va_G} {b0 : Nat} {cT : Nat → ClassId} {ad : Nat → Nat} {post : Int32 → Prop}  {M : em_M}  (C : em_Cx X D b0 cT R_LW b_LW_floor (some .int) 1 rm_LW_floor) (hQ : xQ X = MQ (xB X) (va_Qi (fun r M1 => M = M1 ∧ post r) (em_U D b0 cT ad (SH ad) NC) (em_A b0)) (xA X) (xS X) 0 0 (em_A b0)) (hw : wp_LW_floor post  M) : em_G X D b0 cT ad 1 (SH ad) NC 0 0 M 0 [(0, .ref (ad (48)))] [] := by
  unfold wp_LW_floor at hw
  refine g_aload_n C 0 0 d_LW_floor_0 rfl rfl ?_
  refine g_getr C 48 2 rfl d_LW_floor_1 em_nc_LW em_sh_LW rfl (by decide) rfl in_LW mw_146 rfl ?_
  refine g_callVNi C 43 rfl [] [] (c_RK_isFull  hw) (em_cnB C 0 mn_52 mw_68 mw_316 rfl rfl (by decide +kernel) (by decide)) mw_315 mw_21 em_nc_RK em_sh_RK rfl rfl rfl (Nat.le_of_ble_eq_true rfl) d_LW_floor_4 (by decide) (fun r_2 M_1 hw => ?_)
  obtain ⟨rfl, hw⟩ := hw
  refine g_if_eq (tgt := 20) C d_LW_floor_7 (by decide) (fun hc_3 => ?_) (fun hc_3 => ?_)
  · have hw := hw.1 hc_3
    refine g_iconst (v := (nI 0)) C d_LW_floor_20 (by decide) ?_
    exact g_iret C hQ rfl d_LW_floor_21 ⟨rfl, hw⟩
  · have hw := hw.2 hc_3
    refine g_aload_n C 0 0 d_LW_floor_10 rfl rfl ?_
    refine g_getr C 48 2 rfl d_LW_floor_11 em_nc_LW em_sh_LW rfl (by decide) rfl in_LW mw_146 rfl ?_
    refine g_callVNi C 43 rfl [] [] (c_RK_leastNumber  hw) (em_cnB C 0 mn_53 mw_68 mw_318 rfl rfl (by decide +kernel) (by decide)) mw_317 mw_22 em_nc_RK em_sh_RK rfl rfl rfl (Nat.le_of_ble_eq_true rfl) d_LW_floor_14 (by decide) (fun r_5 M_4 hw => ?_)
    obtain ⟨rfl, hw⟩ := hw
    refine g_goto (tgt := 21) C d_LW_floor_17 (by decide) ?_
    exact g_iret C hQ rfl d_LW_floor_21 ⟨rfl, hw⟩
theorem c_LW_floor {l : Launch} {D : va_G} {b0 : Nat} {cT : Nat → ClassId} {ad : Nat → Nat} {post : Int32 → Prop}  {M : em_M}  (hw : wp_LW_floor post  M) : Met l y_LW_floor (.code y_LW_floor b_LW_floor 1 (some .int) :: wAll) rm_LW_floor (va_Pc [.ref (ad (48))] (em_U D b0 cT ad (SH ad) NC M)) (va_Qi (fun r M1 => M = M1 ∧ post r) (em_U D b0 cT ad (SH ad) NC) (em_A b0)) 0 0 (em_A b0) :=
  em_met (by decide) rfl (Nat.le_of_ble_eq_true rfl) (fun X C _ _ hQ => v_LW_floor  C hQ hw)
set_option maxHeartbeats 4000000 in
set_option maxRecDepth 100000 in
theorem v_LW_boundUpTo {X : em_X} {D : va_G} {b0 : Nat} {cT : Nat → ClassId} {ad : Nat → Nat} {post : Int32 → Prop} {x1 : Int32} {M : em_M}  (C : em_Cx X D b0 cT R_LW b_LW_boundUpTo (some .int) 4 rm_LW_boundUpTo) (hQ : xQ X = MQ (xB X) (va_Qi (fun r M1 => M = M1 ∧ post r) (em_U D b0 cT ad (SH ad) NC) (em_A b0)) (xA X) (xS X) 0 0 (em_A b0)) (hw : wp_LW_boundUpTo post x1 M) : em_G X D b0 cT ad 4 (SH ad) NC 0 0 M 0 [(0, .ref (ad (48))), (1, .int x1)] [] := by
  unfold wp_LW_boundUpTo at hw
  refine g_iconst (v := (nI 0)) C d_LW_boundUpTo_0 (by decide) ?_
  refine g_istore_n (lv' := [(2, .int (nI 0)), (0, .ref (ad (48))), (1, .int x1)]) C 2 d_LW_boundUpTo_1 rfl (by decide) rfl ?_
  refine g_iconst (v := (nI 0)) C d_LW_boundUpTo_2 (by decide) ?_
  refine g_istore_n (lv' := [(3, .int (nI 0)), (2, .int (nI 0)), (0, .ref (ad (48))), (1, .int x1)]) C 3 d_LW_boundUpTo_3 rfl (by decide) rfl ?_
  obtain ⟨I_1, mu_1, h0, hw⟩ := hw
  refine g_sub [2, 3, 1, 0] rfl ?_
  have lp_1 : ∀ (n_1 : Nat) (x2_2 : Int32) (x3_3 : Int32) , mu_1 x2_2 x3_3 < n_1 → I_1 x2_2 x3_3 → em_G X D b0 cT ad 4 (SH ad) NC 0 0 M 4 [(0, .ref (ad (48))), (1, .int x1), (2, .int x2_2), (3, .int x3_3)] [] := by
    intro n_1
    induction n_1 with
    | zero => intro x2_2 x3_3 h; exact absurd h (Nat.not_lt_zero _)
    | succ n_1 ih_1 =>
      intro x2_2 x3_3 hn_1 hi
      have hw := hw x2_2 x3_3 hi
      refine g_iload_n C 3 3 d_LW_boundUpTo_4 rfl rfl ?_
      refine g_bipush (v := (nI 12)) C d_LW_boundUpTo_5 (by decide) ?_
      refine g_icmp_ge (tgt := 34) C d_LW_boundUpTo_7 (by decide) (fun hc_4 => ?_) (fun hc_4 => ?_)
      · have hw := hw.1 hc_4
        refine g_iload_n C 2 2 d_LW_boundUpTo_34 rfl rfl ?_
        exact g_iret C hQ rfl d_LW_boundUpTo_35 ⟨rfl, hw⟩
      · have hw := hw.2 hc_4
        refine g_aload_n C 0 0 d_LW_boundUpTo_10 rfl rfl ?_
        refine g_iload_n C 3 3 d_LW_boundUpTo_11 rfl rfl ?_
        refine g_callVi C 48 rfl [.int x3_3] [] (c_LW_standing  hw) (em_cwV C 1 mw_302 mw_303 mw_17 mw_69 mw_304 rfl rfl (by decide +kernel) (by decide)) em_nc_LW em_sh_LW rfl rfl rfl (Nat.le_of_ble_eq_true rfl) d_LW_boundUpTo_12 (by decide) (fun r_6 M_5 hw => ?_)
        obtain ⟨rfl, hw⟩ := hw
        refine g_iload_n C 1 1 d_LW_boundUpTo_15 rfl rfl ?_
        obtain ⟨J_7, hJ_7, hw⟩ := em_jn1 hw
        have j_7 : ∀ (x2_11 : Int32) , J_7 x2_11 → em_G X D b0 cT ad 4 (SH ad) NC 0 0 M 28 [(0, .ref (ad (48))), (1, .int x1), (2, .int x2_11), (3, .int x3_3)] [] := by
          intro x2_11 hw
          have hw := hJ_7 x2_11 hw
          obtain ⟨x3_12, ex3_12⟩ : ∃ y : Int32, y = x3_3 + nI 1 := ⟨_, rfl⟩
          have hw := hw x3_12 ex3_12
          refine g_iinc (v := x3_12) (lv' := [(3, .int x3_12), (0, .ref (ad (48))), (1, .int x1), (2, .int x2_11)]) C 3 d_LW_boundUpTo_28 rfl (by rw [ex3_12]; first | rfl | (congr 1)) (by decide) rfl ?_
          refine g_goto (tgt := 4) C d_LW_boundUpTo_31 (by decide) ?_
          refine g_sub [1, 2, 3, 0] rfl ?_
          exact ih_1 x2_11 x3_12 (Nat.lt_of_lt_of_le hw.2 (Nat.le_of_lt_succ hn_1)) hw.1
        refine g_icmp_gt (tgt := 28) C d_LW_boundUpTo_16 (by decide) (fun hc_13 => ?_) (fun hc_13 => ?_)
        · have hw := hw.1 hc_13
          refine g_sub [0, 1, 2, 3] rfl ?_
          exact j_7 x2_2 hw
        · have hw := hw.2 hc_13
          refine g_iload_n C 2 2 d_LW_boundUpTo_19 rfl rfl ?_
          refine g_aload_n C 0 0 d_LW_boundUpTo_20 rfl rfl ?_
          refine g_getr C 48 4 rfl d_LW_boundUpTo_21 em_nc_LW em_sh_LW rfl (by decide) rfl in_LW mw_148 rfl ?_
          refine g_iload_n C 3 3 d_LW_boundUpTo_24 rfl rfl ?_
          obtain ⟨hb_14, hw⟩ := hw
          refine g_iald C 50 rfl d_LW_boundUpTo_25 em_nc_bounds em_sh_bounds rfl hb_14 ?_
          refine g_iadd C d_LW_boundUpTo_26 ?_
          refine g_topi (fun x2_15 ex2_15 => ?_)
          have hw := hw x2_15 ex2_15
          refine g_istore_n (lv' := [(2, .int x2_15), (0, .ref (ad (48))), (1, .int x1), (3, .int x3_3)]) C 2 d_LW_boundUpTo_27 rfl (by decide) rfl ?_
          refine g_sub [1, 2, 0, 3] rfl ?_
          exact j_7 x2_15 hw
  exact lp_1 _ (nI 0) (nI 0) (Nat.lt_succ_self _) h0
theorem c_LW_boundUpTo {l : Launch} {D : va_G} {b0 : Nat} {cT : Nat → ClassId} {ad : Nat → Nat} {post : Int32 → Prop} {x1 : Int32} {M : em_M}  (hw : wp_LW_boundUpTo post x1 M) : Met l y_LW_boundUpTo (.code y_LW_boundUpTo b_LW_boundUpTo 4 (some .int) :: wAll) rm_LW_boundUpTo (va_Pc [.ref (ad (48)), .int x1] (em_U D b0 cT ad (SH ad) NC M)) (va_Qi (fun r M1 => M = M1 ∧ post r) (em_U D b0 cT ad (SH ad) NC) (em_A b0)) 0 0 (em_A b0) :=
  em_met (by decide) rfl (Nat.le_of_ble_eq_true rfl) (fun X C _ _ hQ => v_LW_boundUpTo  C hQ hw)
set_option maxHeartbeats 4000000 in
set_option maxRecDepth 100000 in
theorem v_LW_firstAbove {X : em_X} {D : va_G} {b0 : Nat} {cT : Nat → ClassId} {ad : Nat → Nat} {post : Int32 → Prop} {x1 : Int32} {M : em_M}  (C : em_Cx X D b0 cT R_LW b_LW_firstAbove (some .int) 5 rm_LW_firstAbove) (hQ : xQ X = MQ (xB X) (va_Qi (fun r M1 => M = M1 ∧ post r) (em_U D b0 cT ad (SH ad) NC) (em_A b0)) (xA X) (xS X) 0 0 (em_A b0)) (hw : wp_LW_firstAbove post x1 M) : em_G X D b0 cT ad 5 (SH ad) NC 0 0 M 0 [(0, .ref (ad (48))), (1, .int x1)] [] := by
  unfold wp_LW_firstAbove at hw
  refine g_sipush (v := (nI 512)) C d_LW_firstAbove_0 (by decide) ?_
  refine g_istore_n (lv' := [(2, .int (nI 512)), (0, .ref (ad (48))), (1, .int x1)]) C 2 d_LW_firstAbove_3 rfl (by decide) rfl ?_
  refine g_iconst (v := (nI 0)) C d_LW_firstAbove_4 (by decide) ?_
  refine g_istore_n (lv' := [(3, .int (nI 0)), (2, .int (nI 512)), (0, .ref (ad (48))), (1, .int x1)]) C 3 d_LW_firstAbove_5 rfl (by decide) rfl ?_
  obtain ⟨I_1, mu_1, h0, hw⟩ := hw
  refine g_sub [2, 3, 1, 0] rfl ?_
  have lp_1 : ∀ (n_1 : Nat) (x2_2 : Int32) (x3_3 : Int32) , mu_1 x2_2 x3_3 < n_1 → I_1 x2_2 x3_3 → em_G X D b0 cT ad 5 (SH ad) NC 0 0 M 6 [(0, .ref (ad (48))), (1, .int x1), (2, .int x2_2), (3, .int x3_3)] [] := by
    intro n_1
    induction n_1 with
    | zero => intro x2_2 x3_3 h; exact absurd h (Nat.not_lt_zero _)
    | succ n_1 ih_1 =>
      intro x2_2 x3_3 hn_1 hi
      have hw := hw x2_2 x3_3 hi
      refine g_iload_n C 3 3 d_LW_firstAbove_6 rfl rfl ?_
      refine g_bipush (v := (nI 12)) C d_LW_firstAbove_7 (by decide) ?_
      refine g_icmp_ge (tgt := 44) C d_LW_firstAbove_9 (by decide) (fun hc_4 => ?_) (fun hc_4 => ?_)
      · have hw := hw.1 hc_4
        refine g_iload_n C 2 2 d_LW_firstAbove_44 rfl rfl ?_
        exact g_iret C hQ rfl d_LW_firstAbove_45 ⟨rfl, hw⟩
      · have hw := hw.2 hc_4
        refine g_aload_n C 0 0 d_LW_firstAbove_12 rfl rfl ?_
        refine g_iload_n C 3 3 d_LW_firstAbove_13 rfl rfl ?_
        refine g_callVi C 48 rfl [.int x3_3] [] (c_LW_standing  hw) (em_cwV C 1 mw_302 mw_303 mw_17 mw_69 mw_304 rfl rfl (by decide +kernel) (by decide)) em_nc_LW em_sh_LW rfl rfl rfl (Nat.le_of_ble_eq_true rfl) d_LW_firstAbove_14 (by decide) (fun r_6 M_5 hw => ?_)
        obtain ⟨rfl, hw⟩ := hw
        refine g_istore (lv' := [(4, .int r_6), (0, .ref (ad (48))), (1, .int x1), (2, .int x2_2), (3, .int x3_3)]) C d_LW_firstAbove_17 (by decide) rfl ?_
        refine g_iload C 0 d_LW_firstAbove_19 rfl ?_
        refine g_iload_n C 3 2 d_LW_firstAbove_21 rfl rfl ?_
        obtain ⟨J_7, hJ_7, hw⟩ := em_jn1 hw
        have j_7 : ∀ (x2_12 : Int32) , J_7 x2_12 → em_G X D b0 cT ad 5 (SH ad) NC 0 0 M 38 [(0, .ref (ad (48))), (1, .int x1), (2, .int x2_12), (3, .int x3_3), (4, .int r_6)] [] := by
          intro x2_12 hw
          have hw := hJ_7 x2_12 hw
          obtain ⟨x3_13, ex3_13⟩ : ∃ y : Int32, y = x3_3 + nI 1 := ⟨_, rfl⟩
          have hw := hw x3_13 ex3_13
          refine g_iinc (v := x3_13) (lv' := [(3, .int x3_13), (0, .ref (ad (48))), (1, .int x1), (2, .int x2_12), (4, .int r_6)]) C 3 d_LW_firstAbove_38 rfl (by rw [ex3_13]; first | rfl | (congr 1)) (by decide) rfl ?_
          refine g_goto (tgt := 6) C d_LW_firstAbove_41 (by decide) ?_
          refine g_sub [1, 2, 3, 0] rfl ?_
          exact ih_1 x2_12 x3_13 (Nat.lt_of_lt_of_le hw.2 (Nat.le_of_lt_succ hn_1)) hw.1
        refine g_icmp_ge (tgt := 38) C d_LW_firstAbove_22 (by decide) (fun hc_14 => ?_) (fun hc_14 => ?_)
        · have hw := hw.1 hc_14
          refine g_sub [1, 2, 3, 4, 0] rfl ?_
          exact j_7 x2_2 hw
        · have hw := hw.2 hc_14
          refine g_aload_n C 1 0 d_LW_firstAbove_25 rfl rfl ?_
          refine g_iload C 0 d_LW_firstAbove_26 rfl ?_
          refine g_callVi C 48 rfl [.int r_6] [] (c_LW_boundUpTo  hw) (em_cwV C 1 mw_322 mw_323 mw_24 mw_69 mw_324 rfl rfl (by decide +kernel) (by decide)) em_nc_LW em_sh_LW rfl rfl rfl (Nat.le_of_ble_eq_true rfl) d_LW_firstAbove_28 (by decide) (fun r_16 M_15 hw => ?_)
          obtain ⟨rfl, hw⟩ := hw
          refine g_iload_n C 2 1 d_LW_firstAbove_31 rfl rfl ?_
          refine g_icmp_le (tgt := 38) C d_LW_firstAbove_32 (by decide) (fun hc_17 => ?_) (fun hc_17 => ?_)
          · have hw := hw.1 hc_17
            refine g_sub [1, 2, 3, 4, 0] rfl ?_
            exact j_7 x2_2 hw
          · have hw := hw.2 hc_17
            refine g_iload C 0 d_LW_firstAbove_35 rfl ?_
            refine g_istore_n (lv' := [(2, .int r_6), (4, .int r_6), (0, .ref (ad (48))), (1, .int x1), (3, .int x3_3)]) C 2 d_LW_firstAbove_37 rfl (by decide) rfl ?_
            refine g_sub [2, 3, 0, 4, 1] rfl ?_
            exact j_7 r_6 hw
  exact lp_1 _ (nI 512) (nI 0) (Nat.lt_succ_self _) h0
theorem c_LW_firstAbove {l : Launch} {D : va_G} {b0 : Nat} {cT : Nat → ClassId} {ad : Nat → Nat} {post : Int32 → Prop} {x1 : Int32} {M : em_M}  (hw : wp_LW_firstAbove post x1 M) : Met l y_LW_firstAbove (.code y_LW_firstAbove b_LW_firstAbove 5 (some .int) :: wAll) rm_LW_firstAbove (va_Pc [.ref (ad (48)), .int x1] (em_U D b0 cT ad (SH ad) NC M)) (va_Qi (fun r M1 => M = M1 ∧ post r) (em_U D b0 cT ad (SH ad) NC) (em_A b0)) 0 0 (em_A b0) :=
  em_met (by decide) rfl (Nat.le_of_ble_eq_true rfl) (fun X C _ _ hQ => v_LW_firstAbove  C hQ hw)
set_option maxHeartbeats 4000000 in
set_option maxRecDepth 100000 in
theorem v_SL_firstFrom {X : em_X} {D : va_G} {b0 : Nat} {cT : Nat → ClassId} {ad : Nat → Nat} {post : Int32 → Prop} {i0 : Nat} {x1 : Int32} {x2 : Int32} {M : em_M} (hi0 : i0 < 12) (C : em_Cx X D b0 cT R_SL b_SL_firstFrom (some .int) 4 rm_SL_firstFrom) (hQ : xQ X = MQ (xB X) (va_Qi (fun r M1 => M = M1 ∧ post r) (em_U D b0 cT ad (SH ad) NC) (em_A b0)) (xA X) (xS X) 0 0 (em_A b0)) (hw : wp_SL_firstFrom post i0 x1 x2 M) : em_G X D b0 cT ad 4 (SH ad) NC 0 0 M 0 [(0, .ref (ad (4 + 3 * i0))), (1, .int x1), (2, .int x2)] [] := by
  unfold wp_SL_firstFrom at hw
  refine g_iload_n C 1 1 d_SL_firstFrom_0 rfl rfl ?_
  refine g_istore_n (lv' := [(3, .int x1), (0, .ref (ad (4 + 3 * i0))), (1, .int x1), (2, .int x2)]) C 3 d_SL_firstFrom_1 rfl (by decide) rfl ?_
  obtain ⟨I_1, mu_1, h0, hw⟩ := hw
  refine g_sub [1, 2, 3, 0] rfl ?_
  have lp_1 : ∀ (n_1 : Nat) (x3_2 : Int32) , mu_1 x3_2 < n_1 → I_1 x3_2 → em_G X D b0 cT ad 4 (SH ad) NC 0 0 M 2 [(0, .ref (ad (4 + 3 * i0))), (1, .int x1), (2, .int x2), (3, .int x3_2)] [] := by
    intro n_1
    induction n_1 with
    | zero => intro x3_2 h; exact absurd h (Nat.not_lt_zero _)
    | succ n_1 ih_1 =>
      intro x3_2 hn_1 hi
      have hw := hw x3_2 hi
      refine g_iload_n C 3 3 d_SL_firstFrom_2 rfl rfl ?_
      refine g_aload_n C 0 0 d_SL_firstFrom_3 rfl rfl ?_
      refine g_geti C (4 + 3 * i0) 2 rfl d_SL_firstFrom_4 (em_nc_SL hi0) (em_sh_SL hi0) rfl (by decide) rfl in_SL mw_94 rfl ?_
      refine g_icmp_ge (tgt := 26) C d_SL_firstFrom_7 (by decide) (fun hc_3 => ?_) (fun hc_3 => ?_)
      · have hw := hw.1 hc_3
        refine g_iload_n C 3 3 d_SL_firstFrom_26 rfl rfl ?_
        exact g_iret C hQ rfl d_SL_firstFrom_27 ⟨rfl, hw⟩
      · have hw := hw.2 hc_3
        refine g_aload_n C 0 0 d_SL_firstFrom_10 rfl rfl ?_
        refine g_getr C (4 + 3 * i0) 0 rfl d_SL_firstFrom_11 (em_nc_SL hi0) (em_sh_SL hi0) rfl (by decide) rfl in_SL mw_92 rfl ?_
        refine g_iload_n C 3 3 d_SL_firstFrom_14 rfl rfl ?_
        obtain ⟨hb_4, hw⟩ := hw
        refine g_iald C (5 + 3 * i0) rfl d_SL_firstFrom_15 (em_nc_SLo hi0) (em_sh_SLo hi0) rfl hb_4 ?_
        refine g_iload_n C 2 2 d_SL_firstFrom_16 rfl rfl ?_
        refine g_icmp_ge (tgt := 26) C d_SL_firstFrom_17 (by decide) (fun hc_5 => ?_) (fun hc_5 => ?_)
        · have hw := hw.1 hc_5
          refine g_iload_n C 3 3 d_SL_firstFrom_26 rfl rfl ?_
          exact g_iret C hQ rfl d_SL_firstFrom_27 ⟨rfl, hw⟩
        · have hw := hw.2 hc_5
          obtain ⟨x3_6, ex3_6⟩ : ∃ y : Int32, y = x3_2 + nI 1 := ⟨_, rfl⟩
          have hw := hw x3_6 ex3_6
          refine g_iinc (v := x3_6) (lv' := [(3, .int x3_6), (0, .ref (ad (4 + 3 * i0))), (1, .int x1), (2, .int x2)]) C 3 d_SL_firstFrom_20 rfl (by rw [ex3_6]; first | rfl | (congr 1)) (by decide) rfl ?_
          refine g_goto (tgt := 2) C d_SL_firstFrom_23 (by decide) ?_
          refine g_sub [1, 2, 3, 0] rfl ?_
          exact ih_1 x3_6 (Nat.lt_of_lt_of_le hw.2 (Nat.le_of_lt_succ hn_1)) hw.1
  exact lp_1 _ x1 (Nat.lt_succ_self _) h0
theorem c_SL_firstFrom {l : Launch} {D : va_G} {b0 : Nat} {cT : Nat → ClassId} {ad : Nat → Nat} {post : Int32 → Prop} {i0 : Nat} {x1 : Int32} {x2 : Int32} {M : em_M} (hi0 : i0 < 12) (hw : wp_SL_firstFrom post i0 x1 x2 M) : Met l y_SL_firstFrom (.code y_SL_firstFrom b_SL_firstFrom 4 (some .int) :: wAll) rm_SL_firstFrom (va_Pc [.ref (ad (4 + 3 * i0)), .int x1, .int x2] (em_U D b0 cT ad (SH ad) NC M)) (va_Qi (fun r M1 => M = M1 ∧ post r) (em_U D b0 cT ad (SH ad) NC) (em_A b0)) 0 0 (em_A b0) :=
  em_met (by decide) rfl (Nat.le_of_ble_eq_true rfl) (fun X C _ _ hQ => v_SL_firstFrom hi0 C hQ hw)
set_option maxHeartbeats 4000000 in
set_option maxRecDepth 100000 in
theorem v_LW_jumpAll {X : em_X} {D : va_G} {b0 : Nat} {cT : Nat → ClassId} {ad : Nat → Nat} {post : em_M → Prop} {x1 : Int32} {M : em_M}  (C : em_Cx X D b0 cT R_LW b_LW_jumpAll none 4 rm_LW_jumpAll) (hQ : xQ X = MQ (xB X) (va_Qv post (em_U D b0 cT ad (SH ad) NC) (em_A b0)) (xA X) (xS X) 0 0 (em_A b0)) (hw : wp_LW_jumpAll post x1 M) : em_G X D b0 cT ad 4 (SH ad) NC 0 0 M 0 [(0, .ref (ad (48))), (1, .int x1)] [] := by
  unfold wp_LW_jumpAll at hw
  refine g_iconst (v := (nI 0)) C d_LW_jumpAll_0 (by decide) ?_
  refine g_istore_n (lv' := [(2, .int (nI 0)), (0, .ref (ad (48))), (1, .int x1)]) C 2 d_LW_jumpAll_1 rfl (by decide) rfl ?_
  obtain ⟨I_1, mu_1, h0, hw⟩ := hw
  refine g_sub [1, 2, 0] rfl ?_
  have lp_1 : ∀ (n_1 : Nat) (x2_2 : Int32) (M_3 : em_M) , mu_1 x2_2 M_3 < n_1 → I_1 x2_2 M_3 → em_G X D b0 cT ad 4 (SH ad) NC 0 0 M_3 2 [(0, .ref (ad (48))), (1, .int x1), (2, .int x2_2)] [] := by
    intro n_1
    induction n_1 with
    | zero => intro x2_2 M_3 h; exact absurd h (Nat.not_lt_zero _)
    | succ n_1 ih_1 =>
      intro x2_2 M_3 hn_1 hi
      have hw := hw x2_2 M_3 hi
      refine g_iload_n C 2 2 d_LW_jumpAll_2 rfl rfl ?_
      refine g_bipush (v := (nI 12)) C d_LW_jumpAll_3 (by decide) ?_
      refine g_icmp_ge (tgt := 67) C d_LW_jumpAll_5 (by decide) (fun hc_4 => ?_) (fun hc_4 => ?_)
      · have hw := hw.1 hc_4
        exact g_vret C hQ rfl d_LW_jumpAll_67 hw
      · have hw := hw.2 hc_4
        refine g_aload_n C 0 0 d_LW_jumpAll_8 rfl rfl ?_
        refine g_iload_n C 2 2 d_LW_jumpAll_9 rfl rfl ?_
        refine g_callVi C 48 rfl [.int x2_2] [] (c_LW_standing  hw) (em_cwV C 1 mw_302 mw_303 mw_17 mw_69 mw_304 rfl rfl (by decide +kernel) (by decide)) em_nc_LW em_sh_LW rfl rfl rfl (Nat.le_of_ble_eq_true rfl) d_LW_jumpAll_10 (by decide) (fun r_6 M_5 hw => ?_)
        obtain ⟨rfl, hw⟩ := hw
        refine g_iload_n C 1 1 d_LW_jumpAll_13 rfl rfl ?_
        obtain ⟨J_7, hJ_7, hw⟩ := em_jn1 hw
        have j_7 : ∀ (M_14 : em_M) , J_7 M_14 → em_G X D b0 cT ad 4 (SH ad) NC 0 0 M_14 61 [(0, .ref (ad (48))), (1, .int x1), (2, .int x2_2)] [] := by
          intro M_14 hw
          have hw := hJ_7 M_14 hw
          obtain ⟨x2_15, ex2_15⟩ : ∃ y : Int32, y = x2_2 + nI 1 := ⟨_, rfl⟩
          have hw := hw x2_15 ex2_15
          refine g_iinc (v := x2_15) (lv' := [(2, .int x2_15), (0, .ref (ad (48))), (1, .int x1)]) C 2 d_LW_jumpAll_61 rfl (by rw [ex2_15]; first | rfl | (congr 1)) (by decide) rfl ?_
          refine g_goto (tgt := 2) C d_LW_jumpAll_64 (by decide) ?_
          refine g_sub [1, 2, 0] rfl ?_
          exact ih_1 x2_15 M_14 (Nat.lt_of_lt_of_le hw.2 (Nat.le_of_lt_succ hn_1)) hw.1
        refine g_icmp_ge (tgt := 61) C d_LW_jumpAll_14 (by decide) (fun hc_16 => ?_) (fun hc_16 => ?_)
        · have hw := hw.1 hc_16
          refine g_sub [0, 1, 2] rfl ?_
          exact j_7 M_3 hw
        · have hw := hw.2 hc_16
          refine g_aload_n C 0 0 d_LW_jumpAll_17 rfl rfl ?_
          refine g_getr C 48 0 rfl d_LW_jumpAll_18 em_nc_LW em_sh_LW rfl (by decide) rfl in_LW mw_144 rfl ?_
          refine g_getrN C 1 0 rfl d_LW_jumpAll_21 em_nc_SF em_sh_SF rfl (by decide) rfl in_SF mn_5 rfl ?_
          refine g_iload_n C 2 2 d_LW_jumpAll_24 rfl rfl ?_
          obtain ⟨hb_17, hw⟩ := hw
          refine g_aald C 2 rfl d_LW_jumpAll_25 em_nc_lists em_sh_lists rfl hb_17 rfl ?_
          refine g_aload_n C 0 0 d_LW_jumpAll_26 rfl rfl ?_
          refine g_getr C 48 3 rfl d_LW_jumpAll_27 em_nc_LW em_sh_LW rfl (by decide) rfl in_LW mw_147 rfl ?_
          refine g_iload_n C 2 2 d_LW_jumpAll_30 rfl rfl ?_
          refine g_iald C 49 rfl d_LW_jumpAll_31 em_nc_at em_sh_at rfl hb_17 ?_
          refine g_iload_n C 1 1 d_LW_jumpAll_32 rfl rfl ?_
          refine g_callVNi C (4 + 3 * x2_2.toNatClampNeg) rfl [.int (M_3 (49) x2_2.toNatClampNeg), .int x1] [] (c_SL_firstFrom (em_pos hb_17) hw) (em_cnB C 2 mn_54 mw_66 mw_214 rfl rfl (by decide +kernel) (by decide)) mw_213 mw_1 (em_nc_SL (em_pos hb_17)) (em_sh_SL (em_pos hb_17)) rfl rfl rfl (Nat.le_of_ble_eq_true rfl) d_LW_jumpAll_33 (by decide) (fun r_19 M_18 hw => ?_)
          obtain ⟨rfl, hw⟩ := hw
          refine g_istore_n (lv' := [(3, .int r_19), (0, .ref (ad (48))), (1, .int x1), (2, .int x2_2)]) C 3 d_LW_jumpAll_36 rfl (by decide) rfl ?_
          refine g_aload_n C 1 0 d_LW_jumpAll_37 rfl rfl ?_
          refine g_dup C d_LW_jumpAll_38 rfl ?_
          refine g_geti C 48 8 rfl d_LW_jumpAll_39 em_nc_LW em_sh_LW rfl (by decide) rfl in_LW mw_152 rfl ?_
          refine g_iload_n C 0 3 d_LW_jumpAll_42 rfl rfl ?_
          refine g_aload_n C 1 0 d_LW_jumpAll_43 rfl rfl ?_
          refine g_getr C 48 3 rfl d_LW_jumpAll_44 em_nc_LW em_sh_LW rfl (by decide) rfl in_LW mw_147 rfl ?_
          refine g_iload_n C 3 2 d_LW_jumpAll_47 rfl rfl ?_
          refine g_iald C 49 rfl d_LW_jumpAll_48 em_nc_at em_sh_at rfl hb_17 ?_
          refine g_isub C d_LW_jumpAll_49 ?_
          refine g_iadd C d_LW_jumpAll_50 ?_
          refine g_puti C 48 8 rfl ty_LW tyok_LW nm_LW d_LW_jumpAll_51 em_nc_LW em_sh_LW rfl (by decide) rfl in_LW mw_152 rfl rfl rfl rfl rfl ?_
          refine g_nameM (fun M_20 eM_20 => ?_)
          have hw := hw M_20 eM_20
          refine g_aload_n C 1 0 d_LW_jumpAll_54 rfl rfl ?_
          refine g_getr C 48 3 rfl d_LW_jumpAll_55 em_nc_LW em_sh_LW rfl (by decide) rfl in_LW mw_147 rfl ?_
          refine g_iload_n C 3 2 d_LW_jumpAll_58 rfl rfl ?_
          refine g_iload_n C 0 3 d_LW_jumpAll_59 rfl rfl ?_
          refine g_iast C 49 rfl d_LW_jumpAll_60 em_nc_at em_sh_at rfl hb_17 ?_
          refine g_nameM (fun M_21 eM_21 => ?_)
          have hw := hw M_21 eM_21
          refine g_sub [1, 2, 3] rfl ?_
          exact j_7 M_21 hw
  exact lp_1 _ (nI 0) M (Nat.lt_succ_self _) h0
theorem c_LW_jumpAll {l : Launch} {D : va_G} {b0 : Nat} {cT : Nat → ClassId} {ad : Nat → Nat} {post : em_M → Prop} {x1 : Int32} {M : em_M}  (hw : wp_LW_jumpAll post x1 M) : Met l y_LW_jumpAll (.code y_LW_jumpAll b_LW_jumpAll 4 none :: wAll) rm_LW_jumpAll (va_Pc [.ref (ad (48)), .int x1] (em_U D b0 cT ad (SH ad) NC M)) (va_Qv post (em_U D b0 cT ad (SH ad) NC) (em_A b0)) 0 0 (em_A b0) :=
  em_met (by decide) rfl (Nat.le_of_ble_eq_true rfl) (fun X C _ _ hQ => v_LW_jumpAll  C hQ hw)
set_option maxHeartbeats 4000000 in
set_option maxRecDepth 100000 in
theorem v_LW_blockFor {X : em_X} {D : va_G} {b0 : Nat} {cT : Nat → ClassId} {ad : Nat → Nat} {post : Int32 → Prop} {x1 : Int32} {x2 : Int32} {M : em_M}  (C : em_Cx X D b0 cT R_LW b_LW_blockFor (some .int) 5 rm_LW_blockFor) (hQ : xQ X = MQ (xB X) (va_Qi (fun r M1 => M = M1 ∧ post r) (em_U D b0 cT ad (SH ad) NC) (em_A b0)) (xA X) (xS X) 0 0 (em_A b0)) (hw : wp_LW_blockFor post x1 x2 M) : em_G X D b0 cT ad 5 (SH ad) NC 0 0 M 0 [(0, .ref (ad (48))), (1, .int x1), (2, .int x2)] [] := by
  unfold wp_LW_blockFor at hw
  refine g_aload_n C 0 0 d_LW_blockFor_0 rfl rfl ?_
  refine g_iload_n C 1 1 d_LW_blockFor_1 rfl rfl ?_
  refine g_callVi C 48 rfl [.int x1] [] (c_LW_standing  hw) (em_cwV C 1 mw_302 mw_303 mw_17 mw_69 mw_304 rfl rfl (by decide +kernel) (by decide)) em_nc_LW em_sh_LW rfl rfl rfl (Nat.le_of_ble_eq_true rfl) d_LW_blockFor_2 (by decide) (fun r_2 M_1 hw => ?_)
  obtain ⟨rfl, hw⟩ := hw
  refine g_iload_n C 2 2 d_LW_blockFor_5 rfl rfl ?_
  refine g_icmp_le (tgt := 11) C d_LW_blockFor_6 (by decide) (fun hc_3 => ?_) (fun hc_3 => ?_)
  · have hw := hw.1 hc_3
    refine g_aload_n C 0 0 d_LW_blockFor_11 rfl rfl ?_
    refine g_getr C 48 0 rfl d_LW_blockFor_12 em_nc_LW em_sh_LW rfl (by decide) rfl in_LW mw_144 rfl ?_
    refine g_getrN C 1 0 rfl d_LW_blockFor_15 em_nc_SF em_sh_SF rfl (by decide) rfl in_SF mn_5 rfl ?_
    refine g_iload_n C 1 1 d_LW_blockFor_18 rfl rfl ?_
    obtain ⟨hb_4, hw⟩ := hw
    refine g_aald C 2 rfl d_LW_blockFor_19 em_nc_lists em_sh_lists rfl hb_4 rfl ?_
    refine g_astore_n (lv' := [(3, .ref (ad (4 + 3 * x1.toNatClampNeg))), (0, .ref (ad (48))), (1, .int x1), (2, .int x2)]) C 3 d_LW_blockFor_20 rfl (by decide) rfl ?_
    refine g_aload_n C 0 3 d_LW_blockFor_21 rfl rfl ?_
    refine g_aload_n C 1 0 d_LW_blockFor_22 rfl rfl ?_
    refine g_getr C 48 3 rfl d_LW_blockFor_23 em_nc_LW em_sh_LW rfl (by decide) rfl in_LW mw_147 rfl ?_
    refine g_iload_n C 2 1 d_LW_blockFor_26 rfl rfl ?_
    refine g_iald C 49 rfl d_LW_blockFor_27 em_nc_at em_sh_at rfl hb_4 ?_
    refine g_iload_n C 3 2 d_LW_blockFor_28 rfl rfl ?_
    refine g_callVNi C (4 + 3 * x1.toNatClampNeg) rfl [.int (M (49) x1.toNatClampNeg), .int x2] [] (c_SL_firstFrom (em_pos hb_4) hw) (em_cnB C 2 mn_54 mw_66 mw_214 rfl rfl (by decide +kernel) (by decide)) mw_213 mw_1 (em_nc_SL (em_pos hb_4)) (em_sh_SL (em_pos hb_4)) rfl rfl rfl (Nat.le_of_ble_eq_true rfl) d_LW_blockFor_29 (by decide) (fun r_6 M_5 hw => ?_)
    obtain ⟨rfl, hw⟩ := hw
    refine g_istore (lv' := [(4, .int r_6), (3, .ref (ad (4 + 3 * x1.toNatClampNeg))), (0, .ref (ad (48))), (1, .int x1), (2, .int x2)]) C d_LW_blockFor_32 (by decide) rfl ?_
    refine g_iload C 0 d_LW_blockFor_34 rfl ?_
    refine g_aload_n C 1 3 d_LW_blockFor_36 rfl rfl ?_
    refine g_getiN C (4 + 3 * x1.toNatClampNeg) 2 rfl d_LW_blockFor_37 (em_nc_SL (em_pos hb_4)) (em_sh_SL (em_pos hb_4)) rfl (by decide) rfl in_SL mn_3 rfl ?_
    refine g_icmp_ge (tgt := 51) C d_LW_blockFor_40 (by decide) (fun hc_7 => ?_) (fun hc_7 => ?_)
    · have hw := hw.1 hc_7
      refine g_iconst (v := (-1 : Int32)) C d_LW_blockFor_51 (by decide) ?_
      exact g_iret C hQ rfl d_LW_blockFor_52 ⟨rfl, hw⟩
    · have hw := hw.2 hc_7
      refine g_iload C 0 d_LW_blockFor_43 rfl ?_
      refine g_bipush (v := (nI 8)) C d_LW_blockFor_45 (by decide) ?_
      refine g_idiv C d_LW_blockFor_47 (by decide) ?_
      refine g_goto (tgt := 52) C d_LW_blockFor_48 (by decide) ?_
      exact g_iret C hQ rfl d_LW_blockFor_52 ⟨rfl, hw⟩
  · have hw := hw.2 hc_3
    refine g_iconst (v := (-1 : Int32)) C d_LW_blockFor_9 (by decide) ?_
    exact g_iret C hQ rfl d_LW_blockFor_10 ⟨rfl, hw⟩
theorem c_LW_blockFor {l : Launch} {D : va_G} {b0 : Nat} {cT : Nat → ClassId} {ad : Nat → Nat} {post : Int32 → Prop} {x1 : Int32} {x2 : Int32} {M : em_M}  (hw : wp_LW_blockFor post x1 x2 M) : Met l y_LW_blockFor (.code y_LW_blockFor b_LW_blockFor 5 (some .int) :: wAll) rm_LW_blockFor (va_Pc [.ref (ad (48)), .int x1, .int x2] (em_U D b0 cT ad (SH ad) NC M)) (va_Qi (fun r M1 => M = M1 ∧ post r) (em_U D b0 cT ad (SH ad) NC) (em_A b0)) 0 0 (em_A b0) :=
  em_met (by decide) rfl (Nat.le_of_ble_eq_true rfl) (fun X C _ _ hQ => v_LW_blockFor  C hQ hw)
set_option maxHeartbeats 4000000 in
set_option maxRecDepth 100000 in
theorem v_SL_blockEnd {X : em_X} {D : va_G} {b0 : Nat} {cT : Nat → ClassId} {ad : Nat → Nat} {post : Int32 → Prop} {i0 : Nat} {x1 : Int32} {M : em_M} (hi0 : i0 < 12) (C : em_Cx X D b0 cT R_SL b_SL_blockEnd (some .int) 2 rm_SL_blockEnd) (hQ : xQ X = MQ (xB X) (va_Qi (fun r M1 => M = M1 ∧ post r) (em_U D b0 cT ad (SH ad) NC) (em_A b0)) (xA X) (xS X) 0 0 (em_A b0)) (hw : wp_SL_blockEnd post i0 x1 M) : em_G X D b0 cT ad 2 (SH ad) NC 0 0 M 0 [(0, .ref (ad (4 + 3 * i0))), (1, .int x1)] [] := by
  unfold wp_SL_blockEnd at hw
  refine g_iload_n C 1 1 d_SL_blockEnd_0 rfl rfl ?_
  refine g_bipush (v := (nI 8)) C d_SL_blockEnd_1 (by decide) ?_
  refine g_imul C d_SL_blockEnd_3 ?_
  refine g_bipush (v := (nI 8)) C d_SL_blockEnd_4 (by decide) ?_
  refine g_iadd C d_SL_blockEnd_6 ?_
  refine g_aload_n C 0 0 d_SL_blockEnd_7 rfl rfl ?_
  refine g_geti C (4 + 3 * i0) 2 rfl d_SL_blockEnd_8 (em_nc_SL hi0) (em_sh_SL hi0) rfl (by decide) rfl in_SL mw_94 rfl ?_
  refine g_mmin C d_SL_blockEnd_11 mw_247 mw_248 mw_73 mw_249 (by decide) (Nat.le_of_ble_eq_true rfl) (by decide) (by decide) ?_
  exact g_iret C hQ rfl d_SL_blockEnd_14 ⟨rfl, hw⟩
theorem c_SL_blockEnd {l : Launch} {D : va_G} {b0 : Nat} {cT : Nat → ClassId} {ad : Nat → Nat} {post : Int32 → Prop} {i0 : Nat} {x1 : Int32} {M : em_M} (hi0 : i0 < 12) (hw : wp_SL_blockEnd post i0 x1 M) : Met l y_SL_blockEnd (.code y_SL_blockEnd b_SL_blockEnd 2 (some .int) :: wAll) rm_SL_blockEnd (va_Pc [.ref (ad (4 + 3 * i0)), .int x1] (em_U D b0 cT ad (SH ad) NC M)) (va_Qi (fun r M1 => M = M1 ∧ post r) (em_U D b0 cT ad (SH ad) NC) (em_A b0)) 0 0 (em_A b0) :=
  em_met (by decide) rfl (Nat.le_of_ble_eq_true rfl) (fun X C _ _ hQ => v_SL_blockEnd hi0 C hQ hw)
set_option maxHeartbeats 4000000 in
set_option maxRecDepth 100000 in
theorem v_SL_greatestOfBlock {X : em_X} {D : va_G} {b0 : Nat} {cT : Nat → ClassId} {ad : Nat → Nat} {post : Int32 → Prop} {i0 : Nat} {x1 : Int32} {M : em_M} (hi0 : i0 < 12) (C : em_Cx X D b0 cT R_SL b_SL_greatestOfBlock (some .int) 2 rm_SL_greatestOfBlock) (hQ : xQ X = MQ (xB X) (va_Qi (fun r M1 => M = M1 ∧ post r) (em_U D b0 cT ad (SH ad) NC) (em_A b0)) (xA X) (xS X) 0 0 (em_A b0)) (hw : wp_SL_greatestOfBlock post i0 x1 M) : em_G X D b0 cT ad 2 (SH ad) NC 0 0 M 0 [(0, .ref (ad (4 + 3 * i0))), (1, .int x1)] [] := by
  unfold wp_SL_greatestOfBlock at hw
  refine g_aload_n C 0 0 d_SL_greatestOfBlock_0 rfl rfl ?_
  refine g_iload_n C 1 1 d_SL_greatestOfBlock_1 rfl rfl ?_
  refine g_bipush (v := (nI 8)) C d_SL_greatestOfBlock_2 (by decide) ?_
  refine g_imul C d_SL_greatestOfBlock_4 ?_
  refine g_aload_n C 0 0 d_SL_greatestOfBlock_5 rfl rfl ?_
  refine g_iload_n C 1 1 d_SL_greatestOfBlock_6 rfl rfl ?_
  refine g_callVi C (4 + 3 * i0) rfl [.int x1] [.int (x1 * (nI 8)), .ref (ad (4 + 3 * i0))] (c_SL_blockEnd hi0 hw) (em_cwV C 1 mw_244 mw_245 mw_7 mw_66 mw_246 rfl rfl (by decide +kernel) (by decide)) (em_nc_SL hi0) (em_sh_SL hi0) rfl rfl rfl (Nat.le_of_ble_eq_true rfl) d_SL_greatestOfBlock_7 (by decide) (fun r_2 M_1 hw => ?_)
  obtain ⟨rfl, hw⟩ := hw
  refine g_callVi C (4 + 3 * i0) rfl [.int (x1 * (nI 8)), .int r_2] [] (c_SL_greatestBetween hi0 hw) (em_cwV C 2 mw_234 mw_235 mw_4 mw_66 mw_236 rfl rfl (by decide +kernel) (by decide)) (em_nc_SL hi0) (em_sh_SL hi0) rfl rfl rfl (Nat.le_of_ble_eq_true rfl) d_SL_greatestOfBlock_10 (by decide) (fun r_4 M_3 hw => ?_)
  obtain ⟨rfl, hw⟩ := hw
  exact g_iret C hQ rfl d_SL_greatestOfBlock_13 ⟨rfl, hw⟩
theorem c_SL_greatestOfBlock {l : Launch} {D : va_G} {b0 : Nat} {cT : Nat → ClassId} {ad : Nat → Nat} {post : Int32 → Prop} {i0 : Nat} {x1 : Int32} {M : em_M} (hi0 : i0 < 12) (hw : wp_SL_greatestOfBlock post i0 x1 M) : Met l y_SL_greatestOfBlock (.code y_SL_greatestOfBlock b_SL_greatestOfBlock 2 (some .int) :: wAll) rm_SL_greatestOfBlock (va_Pc [.ref (ad (4 + 3 * i0)), .int x1] (em_U D b0 cT ad (SH ad) NC M)) (va_Qi (fun r M1 => M = M1 ∧ post r) (em_U D b0 cT ad (SH ad) NC) (em_A b0)) 0 0 (em_A b0) :=
  em_met (by decide) rfl (Nat.le_of_ble_eq_true rfl) (fun X C _ _ hQ => v_SL_greatestOfBlock hi0 C hQ hw)
