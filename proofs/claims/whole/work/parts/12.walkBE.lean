/-! THE WALKS, written by wip/gen -/
set_option maxHeartbeats 4000000 in
set_option maxRecDepth 100000 in
theorem v_LW_boundOfBlocks {X : em_X} {D : va_G} {b0 : Nat} {cT : Nat → ClassId} {ad : Nat → Nat} {post : Int32 → Prop} {x1 : Int32} {M : em_M}  (C : em_Cx X D b0 cT R_LW b_LW_boundOfBlocks (some .int) 5 rm_LW_boundOfBlocks) (hQ : xQ X = MQ (xB X) (va_Qi (fun r M1 => M = M1 ∧ post r) (em_U D b0 cT ad (SH ad) NC) (em_A b0)) (xA X) (xS X) 0 0 (em_A b0)) (hw : wp_LW_boundOfBlocks post x1 M) : em_G X D b0 cT ad 5 (SH ad) NC 0 0 M 0 [(0, .ref (ad (48))), (1, .int x1)] [] := by
  unfold wp_LW_boundOfBlocks at hw
  refine g_iconst (v := (nI 0)) C d_LW_boundOfBlocks_0 (by decide) ?_
  refine g_istore_n (lv' := [(2, .int (nI 0)), (0, .ref (ad (48))), (1, .int x1)]) C 2 d_LW_boundOfBlocks_1 rfl (by decide) rfl ?_
  refine g_iconst (v := (nI 0)) C d_LW_boundOfBlocks_2 (by decide) ?_
  refine g_istore_n (lv' := [(3, .int (nI 0)), (2, .int (nI 0)), (0, .ref (ad (48))), (1, .int x1)]) C 3 d_LW_boundOfBlocks_3 rfl (by decide) rfl ?_
  obtain ⟨I_1, mu_1, h0, hw⟩ := hw
  refine g_sub [2, 3, 1, 0] rfl ?_
  have lp_1 : ∀ (n_1 : Nat) (x2_2 : Int32) (x3_3 : Int32) , mu_1 x2_2 x3_3 < n_1 → I_1 x2_2 x3_3 → em_G X D b0 cT ad 5 (SH ad) NC 0 0 M 4 [(0, .ref (ad (48))), (1, .int x1), (2, .int x2_2), (3, .int x3_3)] [] := by
    intro n_1
    induction n_1 with
    | zero => intro x2_2 x3_3 h; exact absurd h (Nat.not_lt_zero _)
    | succ n_1 ih_1 =>
      intro x2_2 x3_3 hn_1 hi
      have hw := hw x2_2 x3_3 hi
      refine g_iload_n C 3 3 d_LW_boundOfBlocks_4 rfl rfl ?_
      refine g_bipush (v := (nI 12)) C d_LW_boundOfBlocks_5 (by decide) ?_
      refine g_icmp_ge (tgt := 56) C d_LW_boundOfBlocks_7 (by decide) (fun hc_4 => ?_) (fun hc_4 => ?_)
      · have hw := hw.1 hc_4
        refine g_iload_n C 2 2 d_LW_boundOfBlocks_56 rfl rfl ?_
        exact g_iret C hQ rfl d_LW_boundOfBlocks_57 ⟨rfl, hw⟩
      · have hw := hw.2 hc_4
        refine g_aload_n C 0 0 d_LW_boundOfBlocks_10 rfl rfl ?_
        refine g_iload_n C 3 3 d_LW_boundOfBlocks_11 rfl rfl ?_
        refine g_iload_n C 1 1 d_LW_boundOfBlocks_12 rfl rfl ?_
        refine g_callVi C 48 rfl [.int x3_3, .int x1] [] (c_LW_blockFor  hw) (em_cwV C 2 mw_331 mw_332 mw_27 mw_69 mw_333 rfl rfl (by decide +kernel) (by decide)) em_nc_LW em_sh_LW rfl rfl rfl (Nat.le_of_ble_eq_true rfl) d_LW_boundOfBlocks_13 (by decide) (fun r_6 M_5 hw => ?_)
        obtain ⟨rfl, hw⟩ := hw
        refine g_istore (lv' := [(4, .int r_6), (0, .ref (ad (48))), (1, .int x1), (2, .int x2_2), (3, .int x3_3)]) C d_LW_boundOfBlocks_16 (by decide) rfl ?_
        refine g_iload C 0 d_LW_boundOfBlocks_18 rfl ?_
        obtain ⟨J_7, hJ_7, hw⟩ := em_jn1 hw
        have j_7 : ∀ (x2_13 : Int32) , J_7 x2_13 → em_G X D b0 cT ad 5 (SH ad) NC 0 0 M 50 [(0, .ref (ad (48))), (1, .int x1), (2, .int x2_13), (3, .int x3_3), (4, .int r_6)] [] := by
          intro x2_13 hw
          have hw := hJ_7 x2_13 hw
          obtain ⟨x3_14, ex3_14⟩ : ∃ y : Int32, y = x3_3 + nI 1 := ⟨_, rfl⟩
          have hw := hw x3_14 ex3_14
          refine g_iinc (v := x3_14) (lv' := [(3, .int x3_14), (0, .ref (ad (48))), (1, .int x1), (2, .int x2_13), (4, .int r_6)]) C 3 d_LW_boundOfBlocks_50 rfl (by rw [ex3_14]; first | rfl | (congr 1)) (by decide) rfl ?_
          refine g_goto (tgt := 4) C d_LW_boundOfBlocks_53 (by decide) ?_
          refine g_sub [1, 2, 3, 0] rfl ?_
          exact ih_1 x2_13 x3_14 (Nat.lt_of_lt_of_le hw.2 (Nat.le_of_lt_succ hn_1)) hw.1
        refine g_if_lt (tgt := 50) C d_LW_boundOfBlocks_20 (by decide) (fun hc_15 => ?_) (fun hc_15 => ?_)
        · have hw := hw.1 hc_15
          refine g_sub [1, 2, 3, 4, 0] rfl ?_
          exact j_7 x2_2 hw
        · have hw := hw.2 hc_15
          refine g_iload_n C 3 2 d_LW_boundOfBlocks_23 rfl rfl ?_
          refine g_aload_n C 1 0 d_LW_boundOfBlocks_24 rfl rfl ?_
          refine g_getr C 48 1 rfl d_LW_boundOfBlocks_25 em_nc_LW em_sh_LW rfl (by decide) rfl in_LW mw_145 rfl ?_
          refine g_getrN C 40 2 rfl d_LW_boundOfBlocks_28 em_nc_QU em_sh_QU rfl (by decide) rfl in_QU mn_12 rfl ?_
          refine g_iload_n C 4 3 d_LW_boundOfBlocks_31 rfl rfl ?_
          obtain ⟨hb_16, hw⟩ := hw
          refine g_iald C 42 rfl d_LW_boundOfBlocks_32 em_nc_weights em_sh_weights rfl hb_16 ?_
          refine g_aload_n C 1 0 d_LW_boundOfBlocks_33 rfl rfl ?_
          refine g_getr C 48 0 rfl d_LW_boundOfBlocks_34 em_nc_LW em_sh_LW rfl (by decide) rfl in_LW mw_144 rfl ?_
          refine g_getrN C 1 0 rfl d_LW_boundOfBlocks_37 em_nc_SF em_sh_SF rfl (by decide) rfl in_SF mn_5 rfl ?_
          refine g_iload_n C 4 3 d_LW_boundOfBlocks_40 rfl rfl ?_
          refine g_aald C 2 rfl d_LW_boundOfBlocks_41 em_nc_lists em_sh_lists rfl hb_16 rfl ?_
          refine g_iload C 0 d_LW_boundOfBlocks_42 rfl ?_
          refine g_callVNi C (4 + 3 * x3_3.toNatClampNeg) rfl [.int r_6] [.int (M (42) x3_3.toNatClampNeg), .int x2_2] (c_SL_greatestOfBlock (em_pos hb_16) hw) (em_cnB C 1 mn_55 mw_66 mw_243 rfl rfl (by decide +kernel) (by decide)) mw_242 mw_6 (em_nc_SL (em_pos hb_16)) (em_sh_SL (em_pos hb_16)) rfl rfl rfl (Nat.le_of_ble_eq_true rfl) d_LW_boundOfBlocks_44 (by decide) (fun r_18 M_17 hw => ?_)
          obtain ⟨rfl, hw⟩ := hw
          refine g_imul C d_LW_boundOfBlocks_47 ?_
          refine g_iadd C d_LW_boundOfBlocks_48 ?_
          refine g_topi (fun x2_19 ex2_19 => ?_)
          have hw := hw x2_19 ex2_19
          refine g_istore_n (lv' := [(2, .int x2_19), (4, .int r_6), (0, .ref (ad (48))), (1, .int x1), (3, .int x3_3)]) C 2 d_LW_boundOfBlocks_49 rfl (by decide) rfl ?_
          refine g_sub [2, 3, 0, 4, 1] rfl ?_
          exact j_7 x2_19 hw
  exact lp_1 _ (nI 0) (nI 0) (Nat.lt_succ_self _) h0
theorem c_LW_boundOfBlocks {l : Launch} {D : va_G} {b0 : Nat} {cT : Nat → ClassId} {ad : Nat → Nat} {post : Int32 → Prop} {x1 : Int32} {M : em_M}  (hw : wp_LW_boundOfBlocks post x1 M) : Met l y_LW_boundOfBlocks (.code y_LW_boundOfBlocks b_LW_boundOfBlocks 5 (some .int) :: wAll) rm_LW_boundOfBlocks (va_Pc [.ref (ad (48)), .int x1] (em_U D b0 cT ad (SH ad) NC M)) (va_Qi (fun r M1 => M = M1 ∧ post r) (em_U D b0 cT ad (SH ad) NC) (em_A b0)) 0 0 (em_A b0) :=
  em_met (by decide) rfl (Nat.le_of_ble_eq_true rfl) (fun X C _ _ hQ => v_LW_boundOfBlocks  C hQ hw)
set_option maxHeartbeats 4000000 in
set_option maxRecDepth 100000 in
theorem v_SL_lastOfBlock {X : em_X} {D : va_G} {b0 : Nat} {cT : Nat → ClassId} {ad : Nat → Nat} {post : Int32 → Prop} {i0 : Nat} {x1 : Int32} {M : em_M} (hi0 : i0 < 12) (C : em_Cx X D b0 cT R_SL b_SL_lastOfBlock (some .int) 2 rm_SL_lastOfBlock) (hQ : xQ X = MQ (xB X) (va_Qi (fun r M1 => M = M1 ∧ post r) (em_U D b0 cT ad (SH ad) NC) (em_A b0)) (xA X) (xS X) 0 0 (em_A b0)) (hw : wp_SL_lastOfBlock post i0 x1 M) : em_G X D b0 cT ad 2 (SH ad) NC 0 0 M 0 [(0, .ref (ad (4 + 3 * i0))), (1, .int x1)] [] := by
  unfold wp_SL_lastOfBlock at hw
  refine g_aload_n C 0 0 d_SL_lastOfBlock_0 rfl rfl ?_
  refine g_aload_n C 0 0 d_SL_lastOfBlock_1 rfl rfl ?_
  refine g_iload_n C 1 1 d_SL_lastOfBlock_2 rfl rfl ?_
  refine g_callVi C (4 + 3 * i0) rfl [.int x1] [.ref (ad (4 + 3 * i0))] (c_SL_blockEnd hi0 hw) (em_cwV C 1 mw_244 mw_245 mw_7 mw_66 mw_246 rfl rfl (by decide +kernel) (by decide)) (em_nc_SL hi0) (em_sh_SL hi0) rfl rfl rfl (Nat.le_of_ble_eq_true rfl) d_SL_lastOfBlock_3 (by decide) (fun r_2 M_1 hw => ?_)
  obtain ⟨rfl, hw⟩ := hw
  refine g_iconst (v := (nI 1)) C d_SL_lastOfBlock_6 (by decide) ?_
  refine g_isub C d_SL_lastOfBlock_7 ?_
  refine g_callVi C (4 + 3 * i0) rfl [.int (r_2 - (nI 1))] [] (c_SL_objectAt hi0 hw) (em_cwV C 1 mw_339 mw_305 mw_18 mw_66 mw_306 rfl rfl (by decide +kernel) (by decide)) (em_nc_SL hi0) (em_sh_SL hi0) rfl rfl rfl (Nat.le_of_ble_eq_true rfl) d_SL_lastOfBlock_8 (by decide) (fun r_4 M_3 hw => ?_)
  obtain ⟨rfl, hw⟩ := hw
  exact g_iret C hQ rfl d_SL_lastOfBlock_11 ⟨rfl, hw⟩
theorem c_SL_lastOfBlock {l : Launch} {D : va_G} {b0 : Nat} {cT : Nat → ClassId} {ad : Nat → Nat} {post : Int32 → Prop} {i0 : Nat} {x1 : Int32} {M : em_M} (hi0 : i0 < 12) (hw : wp_SL_lastOfBlock post i0 x1 M) : Met l y_SL_lastOfBlock (.code y_SL_lastOfBlock b_SL_lastOfBlock 2 (some .int) :: wAll) rm_SL_lastOfBlock (va_Pc [.ref (ad (4 + 3 * i0)), .int x1] (em_U D b0 cT ad (SH ad) NC M)) (va_Qi (fun r M1 => M = M1 ∧ post r) (em_U D b0 cT ad (SH ad) NC) (em_A b0)) 0 0 (em_A b0) :=
  em_met (by decide) rfl (Nat.le_of_ble_eq_true rfl) (fun X C _ _ hQ => v_SL_lastOfBlock hi0 C hQ hw)
set_option maxHeartbeats 4000000 in
set_option maxRecDepth 100000 in
theorem v_LW_endOfBlocks {X : em_X} {D : va_G} {b0 : Nat} {cT : Nat → ClassId} {ad : Nat → Nat} {post : Int32 → Prop} {x1 : Int32} {M : em_M}  (C : em_Cx X D b0 cT R_LW b_LW_endOfBlocks (some .int) 6 rm_LW_endOfBlocks) (hQ : xQ X = MQ (xB X) (va_Qi (fun r M1 => M = M1 ∧ post r) (em_U D b0 cT ad (SH ad) NC) (em_A b0)) (xA X) (xS X) 0 0 (em_A b0)) (hw : wp_LW_endOfBlocks post x1 M) : em_G X D b0 cT ad 6 (SH ad) NC 0 0 M 0 [(0, .ref (ad (48))), (1, .int x1)] [] := by
  unfold wp_LW_endOfBlocks at hw
  refine g_sipush (v := (nI 512)) C d_LW_endOfBlocks_0 (by decide) ?_
  refine g_istore_n (lv' := [(2, .int (nI 512)), (0, .ref (ad (48))), (1, .int x1)]) C 2 d_LW_endOfBlocks_3 rfl (by decide) rfl ?_
  refine g_iconst (v := (nI 0)) C d_LW_endOfBlocks_4 (by decide) ?_
  refine g_istore_n (lv' := [(3, .int (nI 0)), (2, .int (nI 512)), (0, .ref (ad (48))), (1, .int x1)]) C 3 d_LW_endOfBlocks_5 rfl (by decide) rfl ?_
  obtain ⟨I_1, mu_1, h0, hw⟩ := hw
  refine g_sub [2, 3, 1, 0] rfl ?_
  have lp_1 : ∀ (n_1 : Nat) (x2_2 : Int32) (x3_3 : Int32) , mu_1 x2_2 x3_3 < n_1 → I_1 x2_2 x3_3 → em_G X D b0 cT ad 6 (SH ad) NC 0 0 M 6 [(0, .ref (ad (48))), (1, .int x1), (2, .int x2_2), (3, .int x3_3)] [] := by
    intro n_1
    induction n_1 with
    | zero => intro x2_2 x3_3 h; exact absurd h (Nat.not_lt_zero _)
    | succ n_1 ih_1 =>
      intro x2_2 x3_3 hn_1 hi
      have hw := hw x2_2 x3_3 hi
      refine g_iload_n C 3 3 d_LW_endOfBlocks_6 rfl rfl ?_
      refine g_bipush (v := (nI 12)) C d_LW_endOfBlocks_7 (by decide) ?_
      refine g_icmp_ge (tgt := 75) C d_LW_endOfBlocks_9 (by decide) (fun hc_4 => ?_) (fun hc_4 => ?_)
      · have hw := hw.1 hc_4
        refine g_iload_n C 2 2 d_LW_endOfBlocks_75 rfl rfl ?_
        exact g_iret C hQ rfl d_LW_endOfBlocks_76 ⟨rfl, hw⟩
      · have hw := hw.2 hc_4
        refine g_aload_n C 0 0 d_LW_endOfBlocks_12 rfl rfl ?_
        refine g_iload_n C 3 3 d_LW_endOfBlocks_13 rfl rfl ?_
        refine g_callVi C 48 rfl [.int x3_3] [] (c_LW_standing  hw) (em_cwV C 1 mw_302 mw_303 mw_17 mw_69 mw_304 rfl rfl (by decide +kernel) (by decide)) em_nc_LW em_sh_LW rfl rfl rfl (Nat.le_of_ble_eq_true rfl) d_LW_endOfBlocks_14 (by decide) (fun r_6 M_5 hw => ?_)
        obtain ⟨rfl, hw⟩ := hw
        refine g_istore (lv' := [(4, .int r_6), (0, .ref (ad (48))), (1, .int x1), (2, .int x2_2), (3, .int x3_3)]) C d_LW_endOfBlocks_17 (by decide) rfl ?_
        refine g_aload_n C 1 0 d_LW_endOfBlocks_19 rfl rfl ?_
        refine g_iload_n C 4 3 d_LW_endOfBlocks_20 rfl rfl ?_
        refine g_iload_n C 2 1 d_LW_endOfBlocks_21 rfl rfl ?_
        refine g_callVi C 48 rfl [.int x3_3, .int x1] [] (c_LW_blockFor  hw) (em_cwV C 2 mw_331 mw_332 mw_27 mw_69 mw_333 rfl rfl (by decide +kernel) (by decide)) em_nc_LW em_sh_LW rfl rfl rfl (Nat.le_of_ble_eq_true rfl) d_LW_endOfBlocks_22 (by decide) (fun r_8 M_7 hw => ?_)
        obtain ⟨rfl, hw⟩ := hw
        refine g_istore (lv' := [(5, .int r_8), (4, .int r_6), (0, .ref (ad (48))), (1, .int x1), (2, .int x2_2), (3, .int x3_3)]) C d_LW_endOfBlocks_25 (by decide) rfl ?_
        refine g_iload C 0 d_LW_endOfBlocks_27 rfl ?_
        obtain ⟨J_9, hJ_9, hw⟩ := em_jn1 hw
        have j_9 : ∀ (x2_17 : Int32) , J_9 x2_17 → em_G X D b0 cT ad 6 (SH ad) NC 0 0 M 69 [(0, .ref (ad (48))), (1, .int x1), (2, .int x2_17), (3, .int x3_3), (4, .int r_6), (5, .int r_8)] [] := by
          intro x2_17 hw
          have hw := hJ_9 x2_17 hw
          obtain ⟨x3_18, ex3_18⟩ : ∃ y : Int32, y = x3_3 + nI 1 := ⟨_, rfl⟩
          have hw := hw x3_18 ex3_18
          refine g_iinc (v := x3_18) (lv' := [(3, .int x3_18), (0, .ref (ad (48))), (1, .int x1), (2, .int x2_17), (4, .int r_6), (5, .int r_8)]) C 3 d_LW_endOfBlocks_69 rfl (by rw [ex3_18]; first | rfl | (congr 1)) (by decide) rfl ?_
          refine g_goto (tgt := 6) C d_LW_endOfBlocks_72 (by decide) ?_
          refine g_sub [1, 2, 3, 0] rfl ?_
          exact ih_1 x2_17 x3_18 (Nat.lt_of_lt_of_le hw.2 (Nat.le_of_lt_succ hn_1)) hw.1
        refine g_if_lt (tgt := 56) C d_LW_endOfBlocks_29 (by decide) (fun hc_19 => ?_) (fun hc_19 => ?_)
        · have hw := hw.1 hc_19
          refine g_iload C 1 d_LW_endOfBlocks_56 rfl ?_
          refine g_iload_n C 3 1 d_LW_endOfBlocks_58 rfl rfl ?_
          refine g_icmp_le (tgt := 69) C d_LW_endOfBlocks_59 (by decide) (fun hc_20 => ?_) (fun hc_20 => ?_)
          · have hw := hw.1 hc_20
            refine g_sub [2, 3, 4, 5, 1, 0] rfl ?_
            exact j_9 x2_2 hw
          · have hw := hw.2 hc_20
            refine g_iload_n C 4 2 d_LW_endOfBlocks_62 rfl rfl ?_
            refine g_iload C 1 d_LW_endOfBlocks_63 rfl ?_
            refine g_mmin C d_LW_endOfBlocks_65 mw_307 mw_248 mw_73 mw_249 (by decide) (Nat.le_of_ble_eq_true rfl) (by decide) (by decide) ?_
            refine g_topi (fun x2_21 ex2_21 => ?_)
            have hw := hw x2_21 ex2_21
            refine g_istore_n (lv' := [(2, .int x2_21), (5, .int r_8), (4, .int r_6), (0, .ref (ad (48))), (1, .int x1), (3, .int x3_3)]) C 2 d_LW_endOfBlocks_68 rfl (by decide) rfl ?_
            refine g_sub [3, 4, 0, 5, 2, 1] rfl ?_
            exact j_9 x2_21 hw
        · have hw := hw.2 hc_19
          refine g_iload_n C 4 2 d_LW_endOfBlocks_32 rfl rfl ?_
          refine g_aload_n C 2 0 d_LW_endOfBlocks_33 rfl rfl ?_
          refine g_getr C 48 0 rfl d_LW_endOfBlocks_34 em_nc_LW em_sh_LW rfl (by decide) rfl in_LW mw_144 rfl ?_
          refine g_getrN C 1 0 rfl d_LW_endOfBlocks_37 em_nc_SF em_sh_SF rfl (by decide) rfl in_SF mn_5 rfl ?_
          refine g_iload_n C 5 3 d_LW_endOfBlocks_40 rfl rfl ?_
          obtain ⟨hb_22, hw⟩ := hw
          refine g_aald C 2 rfl d_LW_endOfBlocks_41 em_nc_lists em_sh_lists rfl hb_22 rfl ?_
          refine g_iload C 0 d_LW_endOfBlocks_42 rfl ?_
          refine g_callVNi C (4 + 3 * x3_3.toNatClampNeg) rfl [.int r_8] [.int x2_2] (c_SL_lastOfBlock (em_pos hb_22) hw) (em_cnB C 1 mn_56 mw_66 mw_338 rfl rfl (by decide +kernel) (by decide)) mw_337 mw_29 (em_nc_SL (em_pos hb_22)) (em_sh_SL (em_pos hb_22)) rfl rfl rfl (Nat.le_of_ble_eq_true rfl) d_LW_endOfBlocks_44 (by decide) (fun r_24 M_23 hw => ?_)
          obtain ⟨rfl, hw⟩ := hw
          refine g_iconst (v := (nI 1)) C d_LW_endOfBlocks_47 (by decide) ?_
          refine g_iadd C d_LW_endOfBlocks_48 ?_
          refine g_mmin C d_LW_endOfBlocks_49 mw_307 mw_248 mw_73 mw_249 (by decide) (Nat.le_of_ble_eq_true rfl) (by decide) (by decide) ?_
          refine g_topi (fun x2_25 ex2_25 => ?_)
          have hw := hw x2_25 ex2_25
          refine g_istore_n (lv' := [(2, .int x2_25), (5, .int r_8), (4, .int r_6), (0, .ref (ad (48))), (1, .int x1), (3, .int x3_3)]) C 2 d_LW_endOfBlocks_52 rfl (by decide) rfl ?_
          refine g_goto (tgt := 69) C d_LW_endOfBlocks_53 (by decide) ?_
          refine g_sub [3, 4, 0, 5, 2, 1] rfl ?_
          exact j_9 x2_25 hw
  exact lp_1 _ (nI 512) (nI 0) (Nat.lt_succ_self _) h0
theorem c_LW_endOfBlocks {l : Launch} {D : va_G} {b0 : Nat} {cT : Nat → ClassId} {ad : Nat → Nat} {post : Int32 → Prop} {x1 : Int32} {M : em_M}  (hw : wp_LW_endOfBlocks post x1 M) : Met l y_LW_endOfBlocks (.code y_LW_endOfBlocks b_LW_endOfBlocks 6 (some .int) :: wAll) rm_LW_endOfBlocks (va_Pc [.ref (ad (48)), .int x1] (em_U D b0 cT ad (SH ad) NC M)) (va_Qi (fun r M1 => M = M1 ∧ post r) (em_U D b0 cT ad (SH ad) NC) (em_A b0)) 0 0 (em_A b0) :=
  em_met (by decide) rfl (Nat.le_of_ble_eq_true rfl) (fun X C _ _ hQ => v_LW_endOfBlocks  C hQ hw)
set_option maxHeartbeats 4000000 in
set_option maxRecDepth 100000 in
theorem v_QU_isBehindPlace {X : em_X} {D : va_G} {b0 : Nat} {cT : Nat → ClassId} {ad : Nat → Nat} {post : Int32 → Prop} {x1 : Int32} {x2 : Int32} {M : em_M}  (C : em_Cx X D b0 cT R_QU b_QU_isBehindPlace (some .boolean) 3 rm_QU_isBehindPlace) (hQ : xQ X = MQ (xB X) (va_Qi (fun r M1 => M = M1 ∧ post r) (em_U D b0 cT ad (SH ad) NC) (em_A b0)) (xA X) (xS X) 0 0 (em_A b0)) (hw : wp_QU_isBehindPlace post x1 x2 M) : em_G X D b0 cT ad 3 (SH ad) NC 0 0 M 0 [(0, .ref (ad (40))), (1, .int x1), (2, .int x2)] [] := by
  unfold wp_QU_isBehindPlace at hw
  refine g_aload_n C 0 0 d_QU_isBehindPlace_0 rfl rfl ?_
  refine g_geti C 40 4 rfl d_QU_isBehindPlace_1 em_nc_QU em_sh_QU rfl (by decide) rfl in_QU mw_112 rfl ?_
  refine g_if_eq (tgt := 15) C d_QU_isBehindPlace_4 (by decide) (fun hc_1 => ?_) (fun hc_1 => ?_)
  · have hw := hw.1 hc_1
    refine g_iconst (v := (nI 1)) C d_QU_isBehindPlace_15 (by decide) ?_
    exact g_zret C hQ rfl rfl d_QU_isBehindPlace_16 ⟨rfl, hw⟩
  · have hw := hw.2 hc_1
    refine g_iload_n C 1 1 d_QU_isBehindPlace_7 rfl rfl ?_
    refine g_aload_n C 0 0 d_QU_isBehindPlace_8 rfl rfl ?_
    refine g_geti C 40 5 rfl d_QU_isBehindPlace_9 em_nc_QU em_sh_QU rfl (by decide) rfl in_QU mw_113 rfl ?_
    refine g_icmp_ge (tgt := 17) C d_QU_isBehindPlace_12 (by decide) (fun hc_2 => ?_) (fun hc_2 => ?_)
    · have hw := hw.1 hc_2
      refine g_iload_n C 1 1 d_QU_isBehindPlace_17 rfl rfl ?_
      refine g_aload_n C 0 0 d_QU_isBehindPlace_18 rfl rfl ?_
      refine g_geti C 40 5 rfl d_QU_isBehindPlace_19 em_nc_QU em_sh_QU rfl (by decide) rfl in_QU mw_113 rfl ?_
      refine g_icmp_ne (tgt := 37) C d_QU_isBehindPlace_22 (by decide) (fun hc_3 => ?_) (fun hc_3 => ?_)
      · have hw := hw.1 hc_3
        refine g_iconst (v := (nI 0)) C d_QU_isBehindPlace_37 (by decide) ?_
        exact g_zret C hQ rfl rfl d_QU_isBehindPlace_38 ⟨rfl, hw⟩
      · have hw := hw.2 hc_3
        refine g_iload_n C 2 2 d_QU_isBehindPlace_25 rfl rfl ?_
        refine g_aload_n C 0 0 d_QU_isBehindPlace_26 rfl rfl ?_
        refine g_geti C 40 6 rfl d_QU_isBehindPlace_27 em_nc_QU em_sh_QU rfl (by decide) rfl in_QU mw_114 rfl ?_
        refine g_icmp_le (tgt := 37) C d_QU_isBehindPlace_30 (by decide) (fun hc_4 => ?_) (fun hc_4 => ?_)
        · have hw := hw.1 hc_4
          refine g_iconst (v := (nI 0)) C d_QU_isBehindPlace_37 (by decide) ?_
          exact g_zret C hQ rfl rfl d_QU_isBehindPlace_38 ⟨rfl, hw⟩
        · have hw := hw.2 hc_4
          refine g_iconst (v := (nI 1)) C d_QU_isBehindPlace_33 (by decide) ?_
          refine g_goto (tgt := 38) C d_QU_isBehindPlace_34 (by decide) ?_
          exact g_zret C hQ rfl rfl d_QU_isBehindPlace_38 ⟨rfl, hw⟩
    · have hw := hw.2 hc_2
      refine g_iconst (v := (nI 1)) C d_QU_isBehindPlace_15 (by decide) ?_
      exact g_zret C hQ rfl rfl d_QU_isBehindPlace_16 ⟨rfl, hw⟩
theorem c_QU_isBehindPlace {l : Launch} {D : va_G} {b0 : Nat} {cT : Nat → ClassId} {ad : Nat → Nat} {post : Int32 → Prop} {x1 : Int32} {x2 : Int32} {M : em_M}  (hw : wp_QU_isBehindPlace post x1 x2 M) : Met l y_QU_isBehindPlace (.code y_QU_isBehindPlace b_QU_isBehindPlace 3 (some .boolean) :: wAll) rm_QU_isBehindPlace (va_Pc [.ref (ad (40)), .int x1, .int x2] (em_U D b0 cT ad (SH ad) NC M)) (va_Qi (fun r M1 => M = M1 ∧ post r) (em_U D b0 cT ad (SH ad) NC) (em_A b0)) 0 0 (em_A b0) :=
  em_met (by decide) rfl (Nat.le_of_ble_eq_true rfl) (fun X C _ _ hQ => v_QU_isBehindPlace  C hQ hw)
set_option maxHeartbeats 4000000 in
set_option maxRecDepth 100000 in
theorem v_LW_judge {X : em_X} {D : va_G} {b0 : Nat} {cT : Nat → ClassId} {ad : Nat → Nat} {post : em_M → Prop} {x1 : Int32} {M : em_M}  (C : em_Cx X D b0 cT R_LW b_LW_judge none 4 rm_LW_judge) (hQ : xQ X = MQ (xB X) (va_Qv post (em_U D b0 cT ad (SH ad) NC) (em_A b0)) (xA X) (xS X) 0 0 (em_A b0)) (hw : wp_LW_judge post x1 M) : em_G X D b0 cT ad 4 (SH ad) NC 0 0 M 0 [(0, .ref (ad (48))), (1, .int x1)] [] := by
  unfold wp_LW_judge at hw
  refine g_aload_n C 0 0 d_LW_judge_0 rfl rfl ?_
  refine g_dup C d_LW_judge_1 rfl ?_
  refine g_geti C 48 6 rfl d_LW_judge_2 em_nc_LW em_sh_LW rfl (by decide) rfl in_LW mw_150 rfl ?_
  refine g_iconst (v := (nI 1)) C d_LW_judge_5 (by decide) ?_
  refine g_iadd C d_LW_judge_6 ?_
  refine g_puti C 48 6 rfl ty_LW tyok_LW nm_LW d_LW_judge_7 em_nc_LW em_sh_LW rfl (by decide) rfl in_LW mw_150 rfl rfl rfl rfl rfl ?_
  refine g_nameM (fun M_1 eM_1 => ?_)
  have hw := hw M_1 eM_1
  refine g_aload_n C 0 0 d_LW_judge_10 rfl rfl ?_
  refine g_getr C 48 1 rfl d_LW_judge_11 em_nc_LW em_sh_LW rfl (by decide) rfl in_LW mw_145 rfl ?_
  refine g_iload_n C 1 1 d_LW_judge_14 rfl rfl ?_
  refine g_callVNi C 40 rfl [.int x1] [] (c_QU_sumOf  hw) (em_cnB C 1 mn_57 mw_67 mw_276 rfl rfl (by decide +kernel) (by decide)) mw_275 mw_10 em_nc_QU em_sh_QU rfl rfl rfl (Nat.le_of_ble_eq_true rfl) d_LW_judge_15 (by decide) (fun r_3 M_2 hw => ?_)
  obtain ⟨rfl, hw⟩ := hw
  refine g_istore_n (lv' := [(2, .int r_3), (0, .ref (ad (48))), (1, .int x1)]) C 2 d_LW_judge_18 rfl (by decide) rfl ?_
  refine g_aload_n C 1 0 d_LW_judge_19 rfl rfl ?_
  refine g_getr C 48 1 rfl d_LW_judge_20 em_nc_LW em_sh_LW rfl (by decide) rfl in_LW mw_145 rfl ?_
  refine g_iload_n C 2 1 d_LW_judge_23 rfl rfl ?_
  refine g_callVNi C 40 rfl [.int x1] [] (c_QU_admits  hw) (em_cnB C 1 mn_58 mw_67 mw_267 rfl rfl (by decide +kernel) (by decide)) mw_266 mw_8 em_nc_QU em_sh_QU rfl rfl rfl (Nat.le_of_ble_eq_true rfl) d_LW_judge_24 (by decide) (fun r_5 M_4 hw => ?_)
  obtain ⟨rfl, hw⟩ := hw
  obtain ⟨J_6, hJ_6, hw⟩ := em_jn1 hw
  have j_6 : ∀ (M_13 : em_M) , J_6 M_13 → em_G X D b0 cT ad 4 (SH ad) NC 0 0 M_13 61 [(0, .ref (ad (48))), (1, .int x1), (2, .int r_3)] [] := by
    intro M_13 hw
    have hw := hJ_6 M_13 hw
    refine g_iconst (v := (nI 0)) C d_LW_judge_61 (by decide) ?_
    refine g_istore_n (lv' := [(3, .int (nI 0)), (0, .ref (ad (48))), (1, .int x1), (2, .int r_3)]) C 3 d_LW_judge_62 rfl (by decide) rfl ?_
    obtain ⟨I_14, mu_14, h0, hw⟩ := hw
    refine g_sub [1, 2, 3, 0] rfl ?_
    have lp_14 : ∀ (n_14 : Nat) (x3_15 : Int32) (M_16 : em_M) , mu_14 x3_15 M_16 < n_14 → I_14 x3_15 M_16 → em_G X D b0 cT ad 4 (SH ad) NC 0 0 M_16 63 [(0, .ref (ad (48))), (1, .int x1), (2, .int r_3), (3, .int x3_15)] [] := by
      intro n_14
      induction n_14 with
      | zero => intro x3_15 M_16 h; exact absurd h (Nat.not_lt_zero _)
      | succ n_14 ih_14 =>
        intro x3_15 M_16 hn_14 hi
        have hw := hw x3_15 M_16 hi
        refine g_iload_n C 3 3 d_LW_judge_63 rfl rfl ?_
        refine g_bipush (v := (nI 12)) C d_LW_judge_64 (by decide) ?_
        refine g_icmp_ge (tgt := 94) C d_LW_judge_66 (by decide) (fun hc_17 => ?_) (fun hc_17 => ?_)
        · have hw := hw.1 hc_17
          exact g_vret C hQ rfl d_LW_judge_94 hw
        · have hw := hw.2 hc_17
          refine g_aload_n C 0 0 d_LW_judge_69 rfl rfl ?_
          refine g_iload_n C 3 3 d_LW_judge_70 rfl rfl ?_
          refine g_callVi C 48 rfl [.int x3_15] [] (c_LW_standing  hw) (em_cwV C 1 mw_302 mw_303 mw_17 mw_69 mw_304 rfl rfl (by decide +kernel) (by decide)) em_nc_LW em_sh_LW rfl rfl rfl (Nat.le_of_ble_eq_true rfl) d_LW_judge_71 (by decide) (fun r_19 M_18 hw => ?_)
          obtain ⟨rfl, hw⟩ := hw
          refine g_iload_n C 1 1 d_LW_judge_74 rfl rfl ?_
          obtain ⟨J_20, hJ_20, hw⟩ := em_jn1 hw
          have j_20 : ∀ (M_24 : em_M) , J_20 M_24 → em_G X D b0 cT ad 4 (SH ad) NC 0 0 M_24 88 [(0, .ref (ad (48))), (1, .int x1), (2, .int r_3), (3, .int x3_15)] [] := by
            intro M_24 hw
            have hw := hJ_20 M_24 hw
            obtain ⟨x3_25, ex3_25⟩ : ∃ y : Int32, y = x3_15 + nI 1 := ⟨_, rfl⟩
            have hw := hw x3_25 ex3_25
            refine g_iinc (v := x3_25) (lv' := [(3, .int x3_25), (0, .ref (ad (48))), (1, .int x1), (2, .int r_3)]) C 3 d_LW_judge_88 rfl (by rw [ex3_25]; first | rfl | (congr 1)) (by decide) rfl ?_
            refine g_goto (tgt := 63) C d_LW_judge_91 (by decide) ?_
            refine g_sub [1, 2, 3, 0] rfl ?_
            exact ih_14 x3_25 M_24 (Nat.lt_of_lt_of_le hw.2 (Nat.le_of_lt_succ hn_14)) hw.1
          refine g_icmp_ne (tgt := 88) C d_LW_judge_75 (by decide) (fun hc_26 => ?_) (fun hc_26 => ?_)
          · have hw := hw.1 hc_26
            refine g_sub [0, 1, 2, 3] rfl ?_
            exact j_20 M_16 hw
          · have hw := hw.2 hc_26
            refine g_aload_n C 0 0 d_LW_judge_78 rfl rfl ?_
            refine g_getr C 48 3 rfl d_LW_judge_79 em_nc_LW em_sh_LW rfl (by decide) rfl in_LW mw_147 rfl ?_
            refine g_iload_n C 3 3 d_LW_judge_82 rfl rfl ?_
            refine g_dup2 C d_LW_judge_83 rfl rfl ?_
            obtain ⟨hb_27, hw⟩ := hw
            refine g_iald C 49 rfl d_LW_judge_84 em_nc_at em_sh_at rfl hb_27 ?_
            refine g_iconst (v := (nI 1)) C d_LW_judge_85 (by decide) ?_
            refine g_iadd C d_LW_judge_86 ?_
            refine g_iast C 49 rfl d_LW_judge_87 em_nc_at em_sh_at rfl hb_27 ?_
            refine g_nameM (fun M_28 eM_28 => ?_)
            have hw := hw M_28 eM_28
            refine g_sub [0, 1, 2, 3] rfl ?_
            exact j_20 M_28 hw
    exact lp_14 _ (nI 0) M_13 (Nat.lt_succ_self _) h0
  refine g_if_eq (tgt := 61) C d_LW_judge_27 (by decide) (fun hc_29 => ?_) (fun hc_29 => ?_)
  · have hw := hw.1 hc_29
    refine g_sub [1, 2, 0] rfl ?_
    exact j_6 M_1 hw
  · have hw := hw.2 hc_29
    refine g_aload_n C 1 0 d_LW_judge_30 rfl rfl ?_
    refine g_getr C 48 1 rfl d_LW_judge_31 em_nc_LW em_sh_LW rfl (by decide) rfl in_LW mw_145 rfl ?_
    refine g_iload_n C 0 2 d_LW_judge_34 rfl rfl ?_
    refine g_iload_n C 2 1 d_LW_judge_35 rfl rfl ?_
    refine g_callVNi C 40 rfl [.int r_3, .int x1] [] (c_QU_isBehindPlace  hw) (em_cnB C 2 mn_59 mw_67 mw_344 rfl rfl (by decide +kernel) (by decide)) mw_343 mw_31 em_nc_QU em_sh_QU rfl rfl rfl (Nat.le_of_ble_eq_true rfl) d_LW_judge_36 (by decide) (fun r_31 M_30 hw => ?_)
    obtain ⟨rfl, hw⟩ := hw
    refine g_if_eq (tgt := 61) C d_LW_judge_39 (by decide) (fun hc_32 => ?_) (fun hc_32 => ?_)
    · have hw := hw.1 hc_32
      refine g_sub [1, 2, 0] rfl ?_
      exact j_6 M_1 hw
    · have hw := hw.2 hc_32
      refine g_aload_n C 1 0 d_LW_judge_42 rfl rfl ?_
      refine g_getr C 48 2 rfl d_LW_judge_43 em_nc_LW em_sh_LW rfl (by decide) rfl in_LW mw_146 rfl ?_
      refine g_iload_n C 2 1 d_LW_judge_46 rfl rfl ?_
      refine g_iload_n C 0 2 d_LW_judge_47 rfl rfl ?_
      refine g_iload_n C 0 2 d_LW_judge_48 rfl rfl ?_
      refine g_aload_n C 1 0 d_LW_judge_49 rfl rfl ?_
      refine g_getr C 48 0 rfl d_LW_judge_50 em_nc_LW em_sh_LW rfl (by decide) rfl in_LW mw_144 rfl ?_
      refine g_getrN C 1 1 rfl d_LW_judge_53 em_nc_SF em_sh_SF rfl (by decide) rfl in_SF mn_9 rfl ?_
      refine g_iload_n C 2 1 d_LW_judge_56 rfl rfl ?_
      obtain ⟨hb_33, hw⟩ := hw
      refine g_iald C 3 rfl d_LW_judge_57 em_nc_keyOf em_sh_keyOf rfl hb_33 ?_
      refine g_callVNv C 43 rfl [.int x1, .int r_3, .int r_3, .int (M_1 (3) x1.toNatClampNeg)] [] (c_RK_offer  hw) (em_cnB C 4 mn_60 mw_68 mw_346 rfl rfl (by decide +kernel) (by decide)) mw_345 mw_32 em_nc_RK em_sh_RK rfl rfl rfl (Nat.le_of_ble_eq_true rfl) d_LW_judge_58 (by decide) (fun M_34 hw => ?_)
      refine g_sub [1, 2, 0] rfl ?_
      exact j_6 M_34 hw
theorem c_LW_judge {l : Launch} {D : va_G} {b0 : Nat} {cT : Nat → ClassId} {ad : Nat → Nat} {post : em_M → Prop} {x1 : Int32} {M : em_M}  (hw : wp_LW_judge post x1 M) : Met l y_LW_judge (.code y_LW_judge b_LW_judge 4 none :: wAll) rm_LW_judge (va_Pc [.ref (ad (48)), .int x1] (em_U D b0 cT ad (SH ad) NC M)) (va_Qv post (em_U D b0 cT ad (SH ad) NC) (em_A b0)) 0 0 (em_A b0) :=
  em_met (by decide) rfl (Nat.le_of_ble_eq_true rfl) (fun X C _ _ hQ => v_LW_judge  C hQ hw)
set_option maxHeartbeats 4000000 in
set_option maxRecDepth 100000 in
theorem v_LW_step {X : em_X} {D : va_G} {b0 : Nat} {cT : Nat → ClassId} {ad : Nat → Nat} {post : em_M → Prop}  {M : em_M}  (C : em_Cx X D b0 cT R_LW b_LW_step none 4 rm_LW_step) (hQ : xQ X = MQ (xB X) (va_Qv post (em_U D b0 cT ad (SH ad) NC) (em_A b0)) (xA X) (xS X) 0 0 (em_A b0)) (hw : wp_LW_step post  M) : em_G X D b0 cT ad 4 (SH ad) NC 0 0 M 0 [(0, .ref (ad (48)))] [] := by
  unfold wp_LW_step at hw
  refine g_aload_n C 0 0 d_LW_step_0 rfl rfl ?_
  refine g_callVi C 48 rfl [] [] (c_LW_isAtEnd  hw) (em_cwV C 0 mw_296 mw_297 mw_15 mw_69 mw_298 rfl rfl (by decide +kernel) (by decide)) em_nc_LW em_sh_LW rfl rfl rfl (Nat.le_of_ble_eq_true rfl) d_LW_step_1 (by decide) (fun r_2 M_1 hw => ?_)
  obtain ⟨rfl, hw⟩ := hw
  refine g_if_eq (tgt := 13) C d_LW_step_4 (by decide) (fun hc_3 => ?_) (fun hc_3 => ?_)
  · have hw := hw.1 hc_3
    refine g_aload_n C 0 0 d_LW_step_13 rfl rfl ?_
    refine g_callVi C 48 rfl [] [] (c_LW_floor  hw) (em_cwV C 0 mw_312 mw_313 mw_20 mw_69 mw_314 rfl rfl (by decide +kernel) (by decide)) em_nc_LW em_sh_LW rfl rfl rfl (Nat.le_of_ble_eq_true rfl) d_LW_step_14 (by decide) (fun r_5 M_4 hw => ?_)
    obtain ⟨rfl, hw⟩ := hw
    refine g_istore_n (lv' := [(1, .int r_5), (0, .ref (ad (48)))]) C 1 d_LW_step_17 rfl (by decide) rfl ?_
    refine g_aload_n C 1 0 d_LW_step_18 rfl rfl ?_
    refine g_iload_n C 0 1 d_LW_step_19 rfl rfl ?_
    refine g_callVi C 48 rfl [.int r_5] [] (c_LW_firstAbove  hw) (em_cwV C 1 mw_319 mw_320 mw_23 mw_69 mw_321 rfl rfl (by decide +kernel) (by decide)) em_nc_LW em_sh_LW rfl rfl rfl (Nat.le_of_ble_eq_true rfl) d_LW_step_20 (by decide) (fun r_7 M_6 hw => ?_)
    obtain ⟨rfl, hw⟩ := hw
    refine g_istore_n (lv' := [(2, .int r_7), (1, .int r_5), (0, .ref (ad (48)))]) C 2 d_LW_step_23 rfl (by decide) rfl ?_
    refine g_iload_n C 0 2 d_LW_step_24 rfl rfl ?_
    refine g_sipush (v := (nI 512)) C d_LW_step_25 (by decide) ?_
    refine g_icmp_ne (tgt := 37) C d_LW_step_28 (by decide) (fun hc_8 => ?_) (fun hc_8 => ?_)
    · have hw := hw.1 hc_8
      refine g_aload_n C 2 0 d_LW_step_37 rfl rfl ?_
      refine g_callVi C 48 rfl [] [] (c_LW_greatestNeeded  hw) (em_cwV C 0 mw_308 mw_309 mw_19 mw_69 mw_310 rfl rfl (by decide +kernel) (by decide)) em_nc_LW em_sh_LW rfl rfl rfl (Nat.le_of_ble_eq_true rfl) d_LW_step_38 (by decide) (fun r_10 M_9 hw => ?_)
      obtain ⟨rfl, hw⟩ := hw
      refine g_istore_n (lv' := [(3, .int r_10), (2, .int r_7), (1, .int r_5), (0, .ref (ad (48)))]) C 3 d_LW_step_41 rfl (by decide) rfl ?_
      refine g_iload_n C 0 3 d_LW_step_42 rfl rfl ?_
      refine g_iload_n C 1 2 d_LW_step_43 rfl rfl ?_
      refine g_icmp_le (tgt := 55) C d_LW_step_44 (by decide) (fun hc_11 => ?_) (fun hc_11 => ?_)
      · have hw := hw.1 hc_11
        refine g_aload_n C 3 0 d_LW_step_55 rfl rfl ?_
        refine g_iload_n C 1 2 d_LW_step_56 rfl rfl ?_
        refine g_callVi C 48 rfl [.int r_7] [] (c_LW_boundOfBlocks  hw) (em_cwV C 1 mw_328 mw_329 mw_26 mw_69 mw_330 rfl rfl (by decide +kernel) (by decide)) em_nc_LW em_sh_LW rfl rfl rfl (Nat.le_of_ble_eq_true rfl) d_LW_step_57 (by decide) (fun r_13 M_12 hw => ?_)
        obtain ⟨rfl, hw⟩ := hw
        refine g_iload_n C 2 1 d_LW_step_60 rfl rfl ?_
        refine g_icmp_gt (tgt := 86) C d_LW_step_61 (by decide) (fun hc_14 => ?_) (fun hc_14 => ?_)
        · have hw := hw.1 hc_14
          refine g_aload_n C 3 0 d_LW_step_86 rfl rfl ?_
          refine g_callVi C 48 rfl [] [] (c_LW_leastObject  hw) (em_cwV C 0 mw_299 mw_300 mw_16 mw_69 mw_301 rfl rfl (by decide +kernel) (by decide)) em_nc_LW em_sh_LW rfl rfl rfl (Nat.le_of_ble_eq_true rfl) d_LW_step_87 (by decide) (fun r_16 M_15 hw => ?_)
          obtain ⟨rfl, hw⟩ := hw
          refine g_iload_n C 1 2 d_LW_step_90 rfl rfl ?_
          refine g_icmp_ge (tgt := 102) C d_LW_step_91 (by decide) (fun hc_17 => ?_) (fun hc_17 => ?_)
          · have hw := hw.1 hc_17
            refine g_aload_n C 3 0 d_LW_step_102 rfl rfl ?_
            refine g_iload_n C 1 2 d_LW_step_103 rfl rfl ?_
            refine g_callVv C 48 rfl [.int r_7] [] (c_LW_judge  hw) (em_cwV C 1 mw_340 mw_341 mw_30 mw_69 mw_342 rfl rfl (by decide +kernel) (by decide)) em_nc_LW em_sh_LW rfl rfl rfl (Nat.le_of_ble_eq_true rfl) d_LW_step_104 (by decide) (fun M_18 hw => ?_)
            exact g_vret C hQ rfl d_LW_step_107 hw
          · have hw := hw.2 hc_17
            refine g_aload_n C 3 0 d_LW_step_94 rfl rfl ?_
            refine g_iload_n C 1 2 d_LW_step_95 rfl rfl ?_
            refine g_callVv C 48 rfl [.int r_7] [] (c_LW_jumpAll  hw) (em_cwV C 1 mw_325 mw_326 mw_25 mw_69 mw_327 rfl rfl (by decide +kernel) (by decide)) em_nc_LW em_sh_LW rfl rfl rfl (Nat.le_of_ble_eq_true rfl) d_LW_step_96 (by decide) (fun M_19 hw => ?_)
            refine g_goto (tgt := 107) C d_LW_step_99 (by decide) ?_
            exact g_vret C hQ rfl d_LW_step_107 hw
        · have hw := hw.2 hc_14
          refine g_aload_n C 3 0 d_LW_step_64 rfl rfl ?_
          refine g_dup C d_LW_step_65 rfl ?_
          refine g_geti C 48 7 rfl d_LW_step_66 em_nc_LW em_sh_LW rfl (by decide) rfl in_LW mw_151 rfl ?_
          refine g_iconst (v := (nI 1)) C d_LW_step_69 (by decide) ?_
          refine g_iadd C d_LW_step_70 ?_
          refine g_puti C 48 7 rfl ty_LW tyok_LW nm_LW d_LW_step_71 em_nc_LW em_sh_LW rfl (by decide) rfl in_LW mw_151 rfl rfl rfl rfl rfl ?_
          refine g_nameM (fun M_20 eM_20 => ?_)
          have hw := hw M_20 eM_20
          refine g_aload_n C 3 0 d_LW_step_74 rfl rfl ?_
          refine g_aload_n C 3 0 d_LW_step_75 rfl rfl ?_
          refine g_iload_n C 1 2 d_LW_step_76 rfl rfl ?_
          refine g_callVi C 48 rfl [.int r_7] [.ref (ad (48))] (c_LW_endOfBlocks  hw) (em_cwV C 1 mw_334 mw_335 mw_28 mw_69 mw_336 rfl rfl (by decide +kernel) (by decide)) em_nc_LW em_sh_LW rfl rfl rfl (Nat.le_of_ble_eq_true rfl) d_LW_step_77 (by decide) (fun r_22 M_21 hw => ?_)
          obtain ⟨rfl, hw⟩ := hw
          refine g_callVv C 48 rfl [.int r_22] [] (c_LW_jumpAll  hw) (em_cwV C 1 mw_325 mw_326 mw_25 mw_69 mw_327 rfl rfl (by decide +kernel) (by decide)) em_nc_LW em_sh_LW rfl rfl rfl (Nat.le_of_ble_eq_true rfl) d_LW_step_80 (by decide) (fun M_23 hw => ?_)
          refine g_goto (tgt := 107) C d_LW_step_83 (by decide) ?_
          exact g_vret C hQ rfl d_LW_step_107 hw
      · have hw := hw.2 hc_11
        refine g_aload_n C 3 0 d_LW_step_47 rfl rfl ?_
        refine g_iload_n C 0 3 d_LW_step_48 rfl rfl ?_
        refine g_callVv C 48 rfl [.int r_10] [] (c_LW_jumpAll  hw) (em_cwV C 1 mw_325 mw_326 mw_25 mw_69 mw_327 rfl rfl (by decide +kernel) (by decide)) em_nc_LW em_sh_LW rfl rfl rfl (Nat.le_of_ble_eq_true rfl) d_LW_step_49 (by decide) (fun M_24 hw => ?_)
        refine g_goto (tgt := 107) C d_LW_step_52 (by decide) ?_
        exact g_vret C hQ rfl d_LW_step_107 hw
    · have hw := hw.2 hc_8
      refine g_aload_n C 2 0 d_LW_step_31 rfl rfl ?_
      refine g_iconst (v := (nI 1)) C d_LW_step_32 (by decide) ?_
      refine g_puti C 48 9 rfl ty_LW tyok_LW nm_LW d_LW_step_33 em_nc_LW em_sh_LW rfl (by decide) rfl in_LW mw_153 rfl rfl rfl rfl rfl ?_
      refine g_nameM (fun M_25 eM_25 => ?_)
      have hw := hw M_25 eM_25
      exact g_vret C hQ rfl d_LW_step_36 hw
  · have hw := hw.2 hc_3
    refine g_aload_n C 0 0 d_LW_step_7 rfl rfl ?_
    refine g_iconst (v := (nI 0)) C d_LW_step_8 (by decide) ?_
    refine g_puti C 48 9 rfl ty_LW tyok_LW nm_LW d_LW_step_9 em_nc_LW em_sh_LW rfl (by decide) rfl in_LW mw_153 rfl rfl rfl rfl rfl ?_
    refine g_nameM (fun M_26 eM_26 => ?_)
    have hw := hw M_26 eM_26
    exact g_vret C hQ rfl d_LW_step_12 hw
theorem c_LW_step {l : Launch} {D : va_G} {b0 : Nat} {cT : Nat → ClassId} {ad : Nat → Nat} {post : em_M → Prop}  {M : em_M}  (hw : wp_LW_step post  M) : Met l y_LW_step (.code y_LW_step b_LW_step 4 none :: wAll) rm_LW_step (va_Pc [.ref (ad (48))] (em_U D b0 cT ad (SH ad) NC M)) (va_Qv post (em_U D b0 cT ad (SH ad) NC) (em_A b0)) 0 0 (em_A b0) :=
  em_met (by decide) rfl (Nat.le_of_ble_eq_true rfl) (fun X C _ _ hQ => v_LW_step  C hQ hw)
set_option maxHeartbeats 4000000 in
set_option maxRecDepth 100000 in
theorem v_LW_run {X : em_X} {D : va_G} {b0 : Nat} {cT : Nat → ClassId} {ad : Nat → Nat} {post : em_M → Prop} {x1 : Int32} {M : em_M}  (C : em_Cx X D b0 cT R_LW b_LW_run none 2 rm_LW_run) (hQ : xQ X = MQ (xB X) (va_Qv post (em_U D b0 cT ad (SH ad) NC) (em_A b0)) (xA X) (xS X) 0 0 (em_A b0)) (hw : wp_LW_run post x1 M) : em_G X D b0 cT ad 2 (SH ad) NC 0 0 M 0 [(0, .ref (ad (48))), (1, .int x1)] [] := by
  unfold wp_LW_run at hw
  refine g_aload_n C 0 0 d_LW_run_0 rfl rfl ?_
  refine g_callVv C 48 rfl [] [] (c_LW_begin  hw) (em_cwV C 0 mw_287 mw_288 mw_12 mw_69 mw_289 rfl rfl (by decide +kernel) (by decide)) em_nc_LW em_sh_LW rfl rfl rfl (Nat.le_of_ble_eq_true rfl) d_LW_run_1 (by decide) (fun M_1 hw => ?_)
  obtain ⟨I_2, mu_2, h0, hw⟩ := hw
  refine g_sub [0, 1] rfl ?_
  have lp_2 : ∀ (n_2 : Nat) (M_3 : em_M) , mu_2 M_3 < n_2 → I_2 M_3 → em_G X D b0 cT ad 2 (SH ad) NC 0 0 M_3 4 [(0, .ref (ad (48))), (1, .int x1)] [] := by
    intro n_2
    induction n_2 with
    | zero => intro M_3 h; exact absurd h (Nat.not_lt_zero _)
    | succ n_2 ih_2 =>
      intro M_3 hn_2 hi
      have hw := hw M_3 hi
      refine g_aload_n C 0 0 d_LW_run_4 rfl rfl ?_
      refine g_geti C 48 5 rfl d_LW_run_5 em_nc_LW em_sh_LW rfl (by decide) rfl in_LW mw_149 rfl ?_
      refine g_iload_n C 1 1 d_LW_run_8 rfl rfl ?_
      refine g_icmp_ge (tgt := 37) C d_LW_run_9 (by decide) (fun hc_4 => ?_) (fun hc_4 => ?_)
      · have hw := hw.1 hc_4
        refine g_aload_n C 0 0 d_LW_run_37 rfl rfl ?_
        refine g_aload_n C 0 0 d_LW_run_38 rfl rfl ?_
        refine g_callVi C 48 rfl [] [.ref (ad (48))] (c_LW_floor  hw) (em_cwV C 0 mw_312 mw_313 mw_20 mw_69 mw_314 rfl rfl (by decide +kernel) (by decide)) em_nc_LW em_sh_LW rfl rfl rfl (Nat.le_of_ble_eq_true rfl) d_LW_run_39 (by decide) (fun r_6 M_5 hw => ?_)
        obtain ⟨rfl, hw⟩ := hw
        refine g_puti C 48 10 rfl ty_LW tyok_LW nm_LW d_LW_run_42 em_nc_LW em_sh_LW rfl (by decide) rfl in_LW mw_154 rfl rfl rfl rfl rfl ?_
        refine g_nameM (fun M_7 eM_7 => ?_)
        have hw := hw M_7 eM_7
        refine g_aload_n C 0 0 d_LW_run_45 rfl rfl ?_
        refine g_aload_n C 0 0 d_LW_run_46 rfl rfl ?_
        refine g_callVi C 48 rfl [] [.ref (ad (48))] (c_LW_leastObject  hw) (em_cwV C 0 mw_299 mw_300 mw_16 mw_69 mw_301 rfl rfl (by decide +kernel) (by decide)) em_nc_LW em_sh_LW rfl rfl rfl (Nat.le_of_ble_eq_true rfl) d_LW_run_47 (by decide) (fun r_9 M_8 hw => ?_)
        obtain ⟨rfl, hw⟩ := hw
        refine g_puti C 48 11 rfl ty_LW tyok_LW nm_LW d_LW_run_50 em_nc_LW em_sh_LW rfl (by decide) rfl in_LW mw_155 rfl rfl rfl rfl rfl ?_
        refine g_nameM (fun M_10 eM_10 => ?_)
        have hw := hw M_10 eM_10
        exact g_vret C hQ rfl d_LW_run_53 hw
      · have hw := hw.2 hc_4
        refine g_aload_n C 0 0 d_LW_run_12 rfl rfl ?_
        refine g_geti C 48 9 rfl d_LW_run_13 em_nc_LW em_sh_LW rfl (by decide) rfl in_LW mw_153 rfl ?_
        refine g_iconst (v := (nI 2)) C d_LW_run_16 (by decide) ?_
        refine g_icmp_ne (tgt := 37) C d_LW_run_17 (by decide) (fun hc_11 => ?_) (fun hc_11 => ?_)
        · have hw := hw.1 hc_11
          refine g_aload_n C 0 0 d_LW_run_37 rfl rfl ?_
          refine g_aload_n C 0 0 d_LW_run_38 rfl rfl ?_
          refine g_callVi C 48 rfl [] [.ref (ad (48))] (c_LW_floor  hw) (em_cwV C 0 mw_312 mw_313 mw_20 mw_69 mw_314 rfl rfl (by decide +kernel) (by decide)) em_nc_LW em_sh_LW rfl rfl rfl (Nat.le_of_ble_eq_true rfl) d_LW_run_39 (by decide) (fun r_13 M_12 hw => ?_)
          obtain ⟨rfl, hw⟩ := hw
          refine g_puti C 48 10 rfl ty_LW tyok_LW nm_LW d_LW_run_42 em_nc_LW em_sh_LW rfl (by decide) rfl in_LW mw_154 rfl rfl rfl rfl rfl ?_
          refine g_nameM (fun M_14 eM_14 => ?_)
          have hw := hw M_14 eM_14
          refine g_aload_n C 0 0 d_LW_run_45 rfl rfl ?_
          refine g_aload_n C 0 0 d_LW_run_46 rfl rfl ?_
          refine g_callVi C 48 rfl [] [.ref (ad (48))] (c_LW_leastObject  hw) (em_cwV C 0 mw_299 mw_300 mw_16 mw_69 mw_301 rfl rfl (by decide +kernel) (by decide)) em_nc_LW em_sh_LW rfl rfl rfl (Nat.le_of_ble_eq_true rfl) d_LW_run_47 (by decide) (fun r_16 M_15 hw => ?_)
          obtain ⟨rfl, hw⟩ := hw
          refine g_puti C 48 11 rfl ty_LW tyok_LW nm_LW d_LW_run_50 em_nc_LW em_sh_LW rfl (by decide) rfl in_LW mw_155 rfl rfl rfl rfl rfl ?_
          refine g_nameM (fun M_17 eM_17 => ?_)
          have hw := hw M_17 eM_17
          exact g_vret C hQ rfl d_LW_run_53 hw
        · have hw := hw.2 hc_11
          refine g_aload_n C 0 0 d_LW_run_20 rfl rfl ?_
          refine g_dup C d_LW_run_21 rfl ?_
          refine g_geti C 48 5 rfl d_LW_run_22 em_nc_LW em_sh_LW rfl (by decide) rfl in_LW mw_149 rfl ?_
          refine g_iconst (v := (nI 1)) C d_LW_run_25 (by decide) ?_
          refine g_iadd C d_LW_run_26 ?_
          refine g_puti C 48 5 rfl ty_LW tyok_LW nm_LW d_LW_run_27 em_nc_LW em_sh_LW rfl (by decide) rfl in_LW mw_149 rfl rfl rfl rfl rfl ?_
          refine g_nameM (fun M_18 eM_18 => ?_)
          have hw := hw M_18 eM_18
          refine g_aload_n C 0 0 d_LW_run_30 rfl rfl ?_
          refine g_callVv C 48 rfl [] [] (c_LW_step  hw) (em_cwV C 0 mw_293 mw_294 mw_14 mw_69 mw_295 rfl rfl (by decide +kernel) (by decide)) em_nc_LW em_sh_LW rfl rfl rfl (Nat.le_of_ble_eq_true rfl) d_LW_run_31 (by decide) (fun M_19 hw => ?_)
          refine g_goto (tgt := 4) C d_LW_run_34 (by decide) ?_
          refine g_sub [0, 1] rfl ?_
          exact ih_2 M_19 (Nat.lt_of_lt_of_le hw.2 (Nat.le_of_lt_succ hn_2)) hw.1
  exact lp_2 _  M_1 (Nat.lt_succ_self _) h0
theorem c_LW_run {l : Launch} {D : va_G} {b0 : Nat} {cT : Nat → ClassId} {ad : Nat → Nat} {post : em_M → Prop} {x1 : Int32} {M : em_M}  (hw : wp_LW_run post x1 M) : Met l y_LW_run (.code y_LW_run b_LW_run 2 none :: wAll) rm_LW_run (va_Pc [.ref (ad (48)), .int x1] (em_U D b0 cT ad (SH ad) NC M)) (va_Qv post (em_U D b0 cT ad (SH ad) NC) (em_A b0)) 0 0 (em_A b0) :=
  em_met (by decide) rfl (Nat.le_of_ble_eq_true rfl) (fun X C _ _ hQ => v_LW_run  C hQ hw)
set_option maxHeartbeats 4000000 in
set_option maxRecDepth 100000 in
theorem v_QU_listsOfSort {X : em_X} {D : va_G} {b0 : Nat} {cT : Nat → ClassId} {ad : Nat → Nat} {post : Int32 → Prop} {x1 : Int32} {M : em_M}  (C : em_Cx X D b0 cT R_QU b_QU_listsOfSort (some .int) 4 rm_QU_listsOfSort) (hQ : xQ X = MQ (xB X) (va_Qi (fun r M1 => M = M1 ∧ post r) (em_U D b0 cT ad (SH ad) NC) (em_A b0)) (xA X) (xS X) 0 0 (em_A b0)) (hw : wp_QU_listsOfSort post x1 M) : em_G X D b0 cT ad 4 (SH ad) NC 0 0 M 0 [(0, .ref (ad (40))), (1, .int x1)] [] := by
  unfold wp_QU_listsOfSort at hw
  refine g_iconst (v := (nI 0)) C d_QU_listsOfSort_0 (by decide) ?_
  refine g_istore_n (lv' := [(2, .int (nI 0)), (0, .ref (ad (40))), (1, .int x1)]) C 2 d_QU_listsOfSort_1 rfl (by decide) rfl ?_
  refine g_iconst (v := (nI 0)) C d_QU_listsOfSort_2 (by decide) ?_
  refine g_istore_n (lv' := [(3, .int (nI 0)), (2, .int (nI 0)), (0, .ref (ad (40))), (1, .int x1)]) C 3 d_QU_listsOfSort_3 rfl (by decide) rfl ?_
  obtain ⟨I_1, mu_1, h0, hw⟩ := hw
  refine g_sub [2, 3, 1, 0] rfl ?_
  have lp_1 : ∀ (n_1 : Nat) (x2_2 : Int32) (x3_3 : Int32) , mu_1 x2_2 x3_3 < n_1 → I_1 x2_2 x3_3 → em_G X D b0 cT ad 4 (SH ad) NC 0 0 M 4 [(0, .ref (ad (40))), (1, .int x1), (2, .int x2_2), (3, .int x3_3)] [] := by
    intro n_1
    induction n_1 with
    | zero => intro x2_2 x3_3 h; exact absurd h (Nat.not_lt_zero _)
    | succ n_1 ih_1 =>
      intro x2_2 x3_3 hn_1 hi
      have hw := hw x2_2 x3_3 hi
      refine g_iload_n C 3 3 d_QU_listsOfSort_4 rfl rfl ?_
      refine g_bipush (v := (nI 12)) C d_QU_listsOfSort_5 (by decide) ?_
      refine g_icmp_ge (tgt := 29) C d_QU_listsOfSort_7 (by decide) (fun hc_4 => ?_) (fun hc_4 => ?_)
      · have hw := hw.1 hc_4
        refine g_iload_n C 2 2 d_QU_listsOfSort_29 rfl rfl ?_
        exact g_iret C hQ rfl d_QU_listsOfSort_30 ⟨rfl, hw⟩
      · have hw := hw.2 hc_4
        refine g_aload_n C 0 0 d_QU_listsOfSort_10 rfl rfl ?_
        refine g_getr C 40 1 rfl d_QU_listsOfSort_11 em_nc_QU em_sh_QU rfl (by decide) rfl in_QU mw_109 rfl ?_
        refine g_iload_n C 3 3 d_QU_listsOfSort_14 rfl rfl ?_
        obtain ⟨hb_5, hw⟩ := hw
        refine g_iald C 41 rfl d_QU_listsOfSort_15 em_nc_sorts em_sh_sorts rfl hb_5 ?_
        refine g_iload_n C 1 1 d_QU_listsOfSort_16 rfl rfl ?_
        obtain ⟨J_6, hJ_6, hw⟩ := em_jn1 hw
        have j_6 : ∀ (x2_9 : Int32) , J_6 x2_9 → em_G X D b0 cT ad 4 (SH ad) NC 0 0 M 23 [(0, .ref (ad (40))), (1, .int x1), (2, .int x2_9), (3, .int x3_3)] [] := by
          intro x2_9 hw
          have hw := hJ_6 x2_9 hw
          obtain ⟨x3_10, ex3_10⟩ : ∃ y : Int32, y = x3_3 + nI 1 := ⟨_, rfl⟩
          have hw := hw x3_10 ex3_10
          refine g_iinc (v := x3_10) (lv' := [(3, .int x3_10), (0, .ref (ad (40))), (1, .int x1), (2, .int x2_9)]) C 3 d_QU_listsOfSort_23 rfl (by rw [ex3_10]; first | rfl | (congr 1)) (by decide) rfl ?_
          refine g_goto (tgt := 4) C d_QU_listsOfSort_26 (by decide) ?_
          refine g_sub [1, 2, 3, 0] rfl ?_
          exact ih_1 x2_9 x3_10 (Nat.lt_of_lt_of_le hw.2 (Nat.le_of_lt_succ hn_1)) hw.1
        refine g_icmp_ne (tgt := 23) C d_QU_listsOfSort_17 (by decide) (fun hc_11 => ?_) (fun hc_11 => ?_)
        · have hw := hw.1 hc_11
          refine g_sub [0, 1, 2, 3] rfl ?_
          exact j_6 x2_2 hw
        · have hw := hw.2 hc_11
          obtain ⟨x2_12, ex2_12⟩ : ∃ y : Int32, y = x2_2 + nI 1 := ⟨_, rfl⟩
          have hw := hw x2_12 ex2_12
          refine g_iinc (v := x2_12) (lv' := [(2, .int x2_12), (0, .ref (ad (40))), (1, .int x1), (3, .int x3_3)]) C 2 d_QU_listsOfSort_20 rfl (by rw [ex2_12]; first | rfl | (congr 1)) (by decide) rfl ?_
          refine g_sub [1, 2, 0, 3] rfl ?_
          exact j_6 x2_12 hw
  exact lp_1 _ (nI 0) (nI 0) (Nat.lt_succ_self _) h0
theorem c_QU_listsOfSort {l : Launch} {D : va_G} {b0 : Nat} {cT : Nat → ClassId} {ad : Nat → Nat} {post : Int32 → Prop} {x1 : Int32} {M : em_M}  (hw : wp_QU_listsOfSort post x1 M) : Met l y_QU_listsOfSort (.code y_QU_listsOfSort b_QU_listsOfSort 4 (some .int) :: wAll) rm_QU_listsOfSort (va_Pc [.ref (ad (40)), .int x1] (em_U D b0 cT ad (SH ad) NC M)) (va_Qi (fun r M1 => M = M1 ∧ post r) (em_U D b0 cT ad (SH ad) NC) (em_A b0)) 0 0 (em_A b0) :=
  em_met (by decide) rfl (Nat.le_of_ble_eq_true rfl) (fun X C _ _ hQ => v_QU_listsOfSort  C hQ hw)
set_option maxHeartbeats 4000000 in
set_option maxRecDepth 100000 in
theorem v_RK_rescore {X : em_X} {D : va_G} {b0 : Nat} {cT : Nat → ClassId} {ad : Nat → Nat} {post : Int32 → em_M → Prop} {x1 : Int32} {x2 : Int32} {x3 : Int32} {M : em_M}  (C : em_Cx X D b0 cT R_RK b_RK_rescore (some .int) 6 rm_RK_rescore) (hQ : xQ X = MQ (xB X) (va_Qi post (em_U D b0 cT ad (SH ad) NC) (em_A b0)) (xA X) (xS X) 0 0 (em_A b0)) (hw : wp_RK_rescore post x1 x2 x3 M) : em_G X D b0 cT ad 6 (SH ad) NC 0 0 M 0 [(0, .ref (ad (43))), (1, .int x1), (2, .int x2), (3, .int x3)] [] := by
  unfold wp_RK_rescore at hw
  refine g_iload_n C 1 1 d_RK_rescore_0 rfl rfl ?_
  refine g_aload_n C 0 0 d_RK_rescore_1 rfl rfl ?_
  refine g_geti C 43 4 rfl d_RK_rescore_2 em_nc_RK em_sh_RK rfl (by decide) rfl in_RK mw_131 rfl ?_
  refine g_mmin C d_RK_rescore_5 mw_292 mw_248 mw_73 mw_249 (by decide) (Nat.le_of_ble_eq_true rfl) (by decide) (by decide) ?_
  refine g_topi (fun x4_1 ex4_1 => ?_)
  have hw := hw x4_1 ex4_1
  refine g_istore (lv' := [(4, .int x4_1), (0, .ref (ad (43))), (1, .int x1), (2, .int x2), (3, .int x3)]) C d_RK_rescore_8 (by decide) rfl ?_
  refine g_iconst (v := (nI 0)) C d_RK_rescore_10 (by decide) ?_
  refine g_istore (lv' := [(5, .int (nI 0)), (4, .int x4_1), (0, .ref (ad (43))), (1, .int x1), (2, .int x2), (3, .int x3)]) C d_RK_rescore_11 (by decide) rfl ?_
  obtain ⟨I_2, mu_2, h0, hw⟩ := hw
  refine g_sub [2, 3, 4, 5, 1, 0] rfl ?_
  have lp_2 : ∀ (n_2 : Nat) (x5_3 : Int32) (M_4 : em_M) , mu_2 x5_3 M_4 < n_2 → I_2 x5_3 M_4 → em_G X D b0 cT ad 6 (SH ad) NC 0 0 M_4 13 [(0, .ref (ad (43))), (1, .int x1), (2, .int x2), (3, .int x3), (4, .int x4_1), (5, .int x5_3)] [] := by
    intro n_2
    induction n_2 with
    | zero => intro x5_3 M_4 h; exact absurd h (Nat.not_lt_zero _)
    | succ n_2 ih_2 =>
      intro x5_3 M_4 hn_2 hi
      have hw := hw x5_3 M_4 hi
      refine g_iload C 5 d_RK_rescore_13 rfl ?_
      refine g_iload C 4 d_RK_rescore_15 rfl ?_
      refine g_icmp_ge (tgt := 59) C d_RK_rescore_17 (by decide) (fun hc_5 => ?_) (fun hc_5 => ?_)
      · have hw := hw.1 hc_5
        refine g_iconst (v := (nI 1)) C d_RK_rescore_59 (by decide) ?_
        refine g_istore (lv' := [(5, .int (nI 1)), (0, .ref (ad (43))), (1, .int x1), (2, .int x2), (3, .int x3), (4, .int x4_1)]) C d_RK_rescore_60 (by decide) rfl ?_
        obtain ⟨I_6, mu_6, h0, hw⟩ := hw
        refine g_sub [1, 2, 3, 4, 5, 0] rfl ?_
        have lp_6 : ∀ (n_6 : Nat) (x5_7 : Int32) (M_8 : em_M) , mu_6 x5_7 M_8 < n_6 → I_6 x5_7 M_8 → em_G X D b0 cT ad 6 (SH ad) NC 0 0 M_8 62 [(0, .ref (ad (43))), (1, .int x1), (2, .int x2), (3, .int x3), (4, .int x4_1), (5, .int x5_7)] [] := by
          intro n_6
          induction n_6 with
          | zero => intro x5_7 M_8 h; exact absurd h (Nat.not_lt_zero _)
          | succ n_6 ih_6 =>
            intro x5_7 M_8 hn_6 hi
            have hw := hw x5_7 M_8 hi
            refine g_iload C 5 d_RK_rescore_62 rfl ?_
            refine g_iload C 4 d_RK_rescore_64 rfl ?_
            refine g_icmp_ge (tgt := 81) C d_RK_rescore_66 (by decide) (fun hc_9 => ?_) (fun hc_9 => ?_)
            · have hw := hw.1 hc_9
              refine g_iload C 4 d_RK_rescore_81 rfl ?_
              exact g_iret C hQ rfl d_RK_rescore_83 hw
            · have hw := hw.2 hc_9
              refine g_aload_n C 0 0 d_RK_rescore_69 rfl rfl ?_
              refine g_iload C 5 d_RK_rescore_70 rfl ?_
              refine g_callVv C 43 rfl [.int x5_7] [] (c_RK_rise  hw) (em_cwV C 1 mw_351 mw_352 mw_34 mw_68 mw_353 rfl rfl (by decide +kernel) (by decide)) em_nc_RK em_sh_RK rfl rfl rfl (Nat.le_of_ble_eq_true rfl) d_RK_rescore_72 (by decide) (fun M_10 hw => ?_)
              obtain ⟨x5_11, ex5_11⟩ : ∃ y : Int32, y = x5_7 + nI 1 := ⟨_, rfl⟩
              have hw := hw x5_11 ex5_11
              refine g_iinc (v := x5_11) (lv' := [(5, .int x5_11), (0, .ref (ad (43))), (1, .int x1), (2, .int x2), (3, .int x3), (4, .int x4_1)]) C 5 d_RK_rescore_75 rfl (by rw [ex5_11]; first | rfl | (congr 1)) (by decide) rfl ?_
              refine g_goto (tgt := 62) C d_RK_rescore_78 (by decide) ?_
              refine g_sub [1, 2, 3, 4, 5, 0] rfl ?_
              exact ih_6 x5_11 M_10 (Nat.lt_of_lt_of_le hw.2 (Nat.le_of_lt_succ hn_6)) hw.1
        exact lp_6 _ (nI 1) M_4 (Nat.lt_succ_self _) h0
      · have hw := hw.2 hc_5
        refine g_aload_n C 0 0 d_RK_rescore_20 rfl rfl ?_
        refine g_getr C 43 1 rfl d_RK_rescore_21 em_nc_RK em_sh_RK rfl (by decide) rfl in_RK mw_128 rfl ?_
        refine g_iload C 5 d_RK_rescore_24 rfl ?_
        refine g_dup2 C d_RK_rescore_26 rfl rfl ?_
        obtain ⟨hb_12, hw⟩ := hw
        refine g_iald C 45 rfl d_RK_rescore_27 em_nc_rNum em_sh_rNum rfl hb_12 ?_
        refine g_iload_n C 2 2 d_RK_rescore_28 rfl rfl ?_
        refine g_iload_n C 3 3 d_RK_rescore_29 rfl rfl ?_
        obtain ⟨J_13, hJ_13, hw⟩ := em_jn1 hw
        have j_13 : ∀ (z_15 : Int32) , J_13 z_15 → em_G X D b0 cT ad 6 (SH ad) NC 0 0 M_4 50 [(0, .ref (ad (43))), (1, .int x1), (2, .int x2), (3, .int x3), (4, .int x4_1), (5, .int x5_3)] [.int z_15, .int x2, .int (M_4 (45) x5_3.toNatClampNeg), .int x5_3, .ref (ad (45))] := by
          intro z_15 hw
          have hw := hJ_13 z_15 hw
          refine g_imul C d_RK_rescore_50 ?_
          refine g_iadd C d_RK_rescore_51 ?_
          refine g_iast C 45 rfl d_RK_rescore_52 em_nc_rNum em_sh_rNum rfl hb_12 ?_
          refine g_nameM (fun M_16 eM_16 => ?_)
          have hw := hw M_16 eM_16
          obtain ⟨x5_17, ex5_17⟩ : ∃ y : Int32, y = x5_3 + nI 1 := ⟨_, rfl⟩
          have hw := hw x5_17 ex5_17
          refine g_iinc (v := x5_17) (lv' := [(5, .int x5_17), (0, .ref (ad (43))), (1, .int x1), (2, .int x2), (3, .int x3), (4, .int x4_1)]) C 5 d_RK_rescore_53 rfl (by rw [ex5_17]; first | rfl | (congr 1)) (by decide) rfl ?_
          refine g_goto (tgt := 13) C d_RK_rescore_56 (by decide) ?_
          refine g_sub [1, 2, 3, 4, 5, 0] rfl ?_
          exact ih_2 x5_17 M_16 (Nat.lt_of_lt_of_le hw.2 (Nat.le_of_lt_succ hn_2)) hw.1
        refine g_if_eq (tgt := 43) C d_RK_rescore_30 (by decide) (fun hc_18 => ?_) (fun hc_18 => ?_)
        · have hw := hw.1 hc_18
          refine g_aload_n C 0 0 d_RK_rescore_43 rfl rfl ?_
          refine g_getr C 43 3 rfl d_RK_rescore_44 em_nc_RK em_sh_RK rfl (by decide) rfl in_RK mw_130 rfl ?_
          refine g_iload C 5 d_RK_rescore_47 rfl ?_
          refine g_iald C 47 rfl d_RK_rescore_49 em_nc_rKey em_sh_rKey rfl hb_12 ?_
          refine g_sub [0, 1, 2, 3, 4, 5] rfl ?_
          exact j_13 (M_4 (47) x5_3.toNatClampNeg) hw
        · have hw := hw.2 hc_18
          refine g_aload_n C 0 0 d_RK_rescore_33 rfl rfl ?_
          refine g_getr C 43 2 rfl d_RK_rescore_34 em_nc_RK em_sh_RK rfl (by decide) rfl in_RK mw_129 rfl ?_
          refine g_iload C 5 d_RK_rescore_37 rfl ?_
          refine g_iald C 46 rfl d_RK_rescore_39 em_nc_rSum em_sh_rSum rfl hb_12 ?_
          refine g_goto (tgt := 50) C d_RK_rescore_40 (by decide) ?_
          refine g_sub [0, 1, 2, 3, 4, 5] rfl ?_
          exact j_13 (M_4 (46) x5_3.toNatClampNeg) hw
  exact lp_2 _ (nI 0) M (Nat.lt_succ_self _) h0
theorem c_RK_rescore {l : Launch} {D : va_G} {b0 : Nat} {cT : Nat → ClassId} {ad : Nat → Nat} {post : Int32 → em_M → Prop} {x1 : Int32} {x2 : Int32} {x3 : Int32} {M : em_M}  (hw : wp_RK_rescore post x1 x2 x3 M) : Met l y_RK_rescore (.code y_RK_rescore b_RK_rescore 6 (some .int) :: wAll) rm_RK_rescore (va_Pc [.ref (ad (43)), .int x1, .int x2, .int x3] (em_U D b0 cT ad (SH ad) NC M)) (va_Qi post (em_U D b0 cT ad (SH ad) NC) (em_A b0)) 0 0 (em_A b0) :=
  em_met (by decide) rfl (Nat.le_of_ble_eq_true rfl) (fun X C _ _ hQ => v_RK_rescore  C hQ hw)
set_option maxHeartbeats 4000000 in
set_option maxRecDepth 100000 in
theorem v_SL_put {X : em_X} {D : va_G} {b0 : Nat} {cT : Nat → ClassId} {ad : Nat → Nat} {post : Int32 → em_M → Prop} {i0 : Nat} {x1 : Int32} {x2 : Int32} {M : em_M} (hi0 : i0 < 12) (C : em_Cx X D b0 cT R_SL b_SL_put (some .boolean) 4 rm_SL_put) (hQ : xQ X = MQ (xB X) (va_Qi post (em_U D b0 cT ad (SH ad) NC) (em_A b0)) (xA X) (xS X) 0 0 (em_A b0)) (hw : wp_SL_put post i0 x1 x2 M) : em_G X D b0 cT ad 4 (SH ad) NC 0 0 M 0 [(0, .ref (ad (4 + 3 * i0))), (1, .int x1), (2, .int x2)] [] := by
  unfold wp_SL_put at hw
  refine g_aload_n C 0 0 d_SL_put_0 rfl rfl ?_
  refine g_getr C (4 + 3 * i0) 1 rfl d_SL_put_1 (em_nc_SL hi0) (em_sh_SL hi0) rfl (by decide) rfl in_SL mw_93 rfl ?_
  refine g_iload_n C 1 1 d_SL_put_4 rfl rfl ?_
  obtain ⟨hb_1, hw⟩ := hw
  refine g_iald C (6 + 3 * i0) rfl d_SL_put_5 (em_nc_SLs hi0) (em_sh_SLs hi0) rfl hb_1 ?_
  refine g_if_ne (tgt := 65) C d_SL_put_6 (by decide) (fun hc_2 => ?_) (fun hc_2 => ?_)
  · have hw := hw.1 hc_2
    refine g_aload_n C 0 0 d_SL_put_65 rfl rfl ?_
    refine g_getr C (4 + 3 * i0) 1 rfl d_SL_put_66 (em_nc_SL hi0) (em_sh_SL hi0) rfl (by decide) rfl in_SL mw_93 rfl ?_
    refine g_iload_n C 1 1 d_SL_put_69 rfl rfl ?_
    refine g_iload_n C 2 2 d_SL_put_70 rfl rfl ?_
    refine g_iast C (6 + 3 * i0) rfl d_SL_put_71 (em_nc_SLs hi0) (em_sh_SLs hi0) rfl hb_1 ?_
    refine g_nameM (fun M_3 eM_3 => ?_)
    have hw := hw M_3 eM_3
    refine g_iconst (v := (nI 1)) C d_SL_put_72 (by decide) ?_
    exact g_zret C hQ rfl rfl d_SL_put_73 hw
  · have hw := hw.2 hc_2
    refine g_aload_n C 0 0 d_SL_put_9 rfl rfl ?_
    refine g_geti C (4 + 3 * i0) 2 rfl d_SL_put_10 (em_nc_SL hi0) (em_sh_SL hi0) rfl (by decide) rfl in_SL mw_94 rfl ?_
    refine g_bipush (v := (nI 120)) C d_SL_put_13 (by decide) ?_
    refine g_icmp_lt (tgt := 20) C d_SL_put_15 (by decide) (fun hc_4 => ?_) (fun hc_4 => ?_)
    · have hw := hw.1 hc_4
      refine g_aload_n C 0 0 d_SL_put_20 rfl rfl ?_
      refine g_iconst (v := (nI 0)) C d_SL_put_21 (by decide) ?_
      refine g_iload_n C 1 1 d_SL_put_22 rfl rfl ?_
      refine g_callVi C (4 + 3 * i0) rfl [.int (nI 0), .int x1] [] (c_SL_firstFrom hi0 hw) (em_cwV C 2 mw_212 mw_213 mw_1 mw_66 mw_214 rfl rfl (by decide +kernel) (by decide)) (em_nc_SL hi0) (em_sh_SL hi0) rfl rfl rfl (Nat.le_of_ble_eq_true rfl) d_SL_put_23 (by decide) (fun r_6 M_5 hw => ?_)
      obtain ⟨rfl, hw⟩ := hw
      refine g_istore_n (lv' := [(3, .int r_6), (0, .ref (ad (4 + 3 * i0))), (1, .int x1), (2, .int x2)]) C 3 d_SL_put_26 rfl (by decide) rfl ?_
      refine g_aload_n C 1 0 d_SL_put_27 rfl rfl ?_
      refine g_getr C (4 + 3 * i0) 0 rfl d_SL_put_28 (em_nc_SL hi0) (em_sh_SL hi0) rfl (by decide) rfl in_SL mw_92 rfl ?_
      refine g_iload_n C 0 3 d_SL_put_31 rfl rfl ?_
      refine g_aload_n C 1 0 d_SL_put_32 rfl rfl ?_
      refine g_getr C (4 + 3 * i0) 0 rfl d_SL_put_33 (em_nc_SL hi0) (em_sh_SL hi0) rfl (by decide) rfl in_SL mw_92 rfl ?_
      refine g_iload_n C 0 3 d_SL_put_36 rfl rfl ?_
      refine g_iconst (v := (nI 1)) C d_SL_put_37 (by decide) ?_
      refine g_iadd C d_SL_put_38 ?_
      refine g_aload_n C 1 0 d_SL_put_39 rfl rfl ?_
      refine g_geti C (4 + 3 * i0) 2 rfl d_SL_put_40 (em_nc_SL hi0) (em_sh_SL hi0) rfl (by decide) rfl in_SL mw_94 rfl ?_
      refine g_iload_n C 0 3 d_SL_put_43 rfl rfl ?_
      refine g_isub C d_SL_put_44 ?_
      obtain ⟨ha_7, ha_8, ha_9, ha_10, ha_11, hw⟩ := hw
      refine g_copyi C (5 + 3 * i0) (5 + 3 * i0) rfl rfl d_SL_put_45 mw_215 mw_217 mw_216 mw_72 (em_nc_SLo hi0) (em_nc_SLo hi0) (em_sh_SLo hi0) (em_sh_SLo hi0) rfl ha_7 ha_8 ha_9 ha_10 ha_11 (by decide) (Nat.le_of_ble_eq_true rfl) ?_
      refine g_nameM (fun M_12 eM_12 => ?_)
      have hw := hw M_12 eM_12
      refine g_aload_n C 1 0 d_SL_put_48 rfl rfl ?_
      refine g_getr C (4 + 3 * i0) 0 rfl d_SL_put_49 (em_nc_SL hi0) (em_sh_SL hi0) rfl (by decide) rfl in_SL mw_92 rfl ?_
      refine g_iload_n C 0 3 d_SL_put_52 rfl rfl ?_
      refine g_iload_n C 2 1 d_SL_put_53 rfl rfl ?_
      obtain ⟨hb_13, hw⟩ := hw
      refine g_iast C (5 + 3 * i0) rfl d_SL_put_54 (em_nc_SLo hi0) (em_sh_SLo hi0) rfl hb_13 ?_
      refine g_nameM (fun M_14 eM_14 => ?_)
      have hw := hw M_14 eM_14
      refine g_aload_n C 1 0 d_SL_put_55 rfl rfl ?_
      refine g_dup C d_SL_put_56 rfl ?_
      refine g_geti C (4 + 3 * i0) 2 rfl d_SL_put_57 (em_nc_SL hi0) (em_sh_SL hi0) rfl (by decide) rfl in_SL mw_94 rfl ?_
      refine g_iconst (v := (nI 1)) C d_SL_put_60 (by decide) ?_
      refine g_iadd C d_SL_put_61 ?_
      refine g_puti C (4 + 3 * i0) 2 rfl ty_SL tyok_SL nm_SL d_SL_put_62 (em_nc_SL hi0) (em_sh_SL hi0) rfl (by decide) rfl in_SL mw_94 rfl rfl rfl rfl rfl ?_
      refine g_nameM (fun M_15 eM_15 => ?_)
      have hw := hw M_15 eM_15
      refine g_aload_n C 1 0 d_SL_put_65 rfl rfl ?_
      refine g_getr C (4 + 3 * i0) 1 rfl d_SL_put_66 (em_nc_SL hi0) (em_sh_SL hi0) rfl (by decide) rfl in_SL mw_93 rfl ?_
      refine g_iload_n C 2 1 d_SL_put_69 rfl rfl ?_
      refine g_iload_n C 3 2 d_SL_put_70 rfl rfl ?_
      refine g_iast C (6 + 3 * i0) rfl d_SL_put_71 (em_nc_SLs hi0) (em_sh_SLs hi0) rfl hb_1 ?_
      refine g_nameM (fun M_16 eM_16 => ?_)
      have hw := hw M_16 eM_16
      refine g_iconst (v := (nI 1)) C d_SL_put_72 (by decide) ?_
      exact g_zret C hQ rfl rfl d_SL_put_73 hw
    · have hw := hw.2 hc_4
      refine g_iconst (v := (nI 0)) C d_SL_put_18 (by decide) ?_
      exact g_zret C hQ rfl rfl d_SL_put_19 hw
theorem c_SL_put {l : Launch} {D : va_G} {b0 : Nat} {cT : Nat → ClassId} {ad : Nat → Nat} {post : Int32 → em_M → Prop} {i0 : Nat} {x1 : Int32} {x2 : Int32} {M : em_M} (hi0 : i0 < 12) (hw : wp_SL_put post i0 x1 x2 M) : Met l y_SL_put (.code y_SL_put b_SL_put 4 (some .boolean) :: wAll) rm_SL_put (va_Pc [.ref (ad (4 + 3 * i0)), .int x1, .int x2] (em_U D b0 cT ad (SH ad) NC M)) (va_Qi post (em_U D b0 cT ad (SH ad) NC) (em_A b0)) 0 0 (em_A b0) :=
  em_met (by decide) rfl (Nat.le_of_ble_eq_true rfl) (fun X C _ _ hQ => v_SL_put hi0 C hQ hw)
set_option maxHeartbeats 4000000 in
set_option maxRecDepth 100000 in
theorem v_SL_drop {X : em_X} {D : va_G} {b0 : Nat} {cT : Nat → ClassId} {ad : Nat → Nat} {post : Int32 → em_M → Prop} {i0 : Nat} {x1 : Int32} {M : em_M} (hi0 : i0 < 12) (C : em_Cx X D b0 cT R_SL b_SL_drop (some .boolean) 3 rm_SL_drop) (hQ : xQ X = MQ (xB X) (va_Qi post (em_U D b0 cT ad (SH ad) NC) (em_A b0)) (xA X) (xS X) 0 0 (em_A b0)) (hw : wp_SL_drop post i0 x1 M) : em_G X D b0 cT ad 3 (SH ad) NC 0 0 M 0 [(0, .ref (ad (4 + 3 * i0))), (1, .int x1)] [] := by
  unfold wp_SL_drop at hw
  refine g_aload_n C 0 0 d_SL_drop_0 rfl rfl ?_
  refine g_getr C (4 + 3 * i0) 1 rfl d_SL_drop_1 (em_nc_SL hi0) (em_sh_SL hi0) rfl (by decide) rfl in_SL mw_93 rfl ?_
  refine g_iload_n C 1 1 d_SL_drop_4 rfl rfl ?_
  obtain ⟨hb_1, hw⟩ := hw
  refine g_iald C (6 + 3 * i0) rfl d_SL_drop_5 (em_nc_SLs hi0) (em_sh_SLs hi0) rfl hb_1 ?_
  refine g_if_ne (tgt := 11) C d_SL_drop_6 (by decide) (fun hc_2 => ?_) (fun hc_2 => ?_)
  · have hw := hw.1 hc_2
    refine g_aload_n C 0 0 d_SL_drop_11 rfl rfl ?_
    refine g_iconst (v := (nI 0)) C d_SL_drop_12 (by decide) ?_
    refine g_iload_n C 1 1 d_SL_drop_13 rfl rfl ?_
    refine g_callVi C (4 + 3 * i0) rfl [.int (nI 0), .int x1] [] (c_SL_firstFrom hi0 hw) (em_cwV C 2 mw_212 mw_213 mw_1 mw_66 mw_214 rfl rfl (by decide +kernel) (by decide)) (em_nc_SL hi0) (em_sh_SL hi0) rfl rfl rfl (Nat.le_of_ble_eq_true rfl) d_SL_drop_14 (by decide) (fun r_4 M_3 hw => ?_)
    obtain ⟨rfl, hw⟩ := hw
    refine g_istore_n (lv' := [(2, .int r_4), (0, .ref (ad (4 + 3 * i0))), (1, .int x1)]) C 2 d_SL_drop_17 rfl (by decide) rfl ?_
    refine g_aload_n C 1 0 d_SL_drop_18 rfl rfl ?_
    refine g_getr C (4 + 3 * i0) 0 rfl d_SL_drop_19 (em_nc_SL hi0) (em_sh_SL hi0) rfl (by decide) rfl in_SL mw_92 rfl ?_
    refine g_iload_n C 0 2 d_SL_drop_22 rfl rfl ?_
    refine g_iconst (v := (nI 1)) C d_SL_drop_23 (by decide) ?_
    refine g_iadd C d_SL_drop_24 ?_
    refine g_aload_n C 1 0 d_SL_drop_25 rfl rfl ?_
    refine g_getr C (4 + 3 * i0) 0 rfl d_SL_drop_26 (em_nc_SL hi0) (em_sh_SL hi0) rfl (by decide) rfl in_SL mw_92 rfl ?_
    refine g_iload_n C 0 2 d_SL_drop_29 rfl rfl ?_
    refine g_aload_n C 1 0 d_SL_drop_30 rfl rfl ?_
    refine g_geti C (4 + 3 * i0) 2 rfl d_SL_drop_31 (em_nc_SL hi0) (em_sh_SL hi0) rfl (by decide) rfl in_SL mw_94 rfl ?_
    refine g_iload_n C 0 2 d_SL_drop_34 rfl rfl ?_
    refine g_isub C d_SL_drop_35 ?_
    refine g_iconst (v := (nI 1)) C d_SL_drop_36 (by decide) ?_
    refine g_isub C d_SL_drop_37 ?_
    obtain ⟨ha_5, ha_6, ha_7, ha_8, ha_9, hw⟩ := hw
    refine g_copyi C (5 + 3 * i0) (5 + 3 * i0) rfl rfl d_SL_drop_38 mw_215 mw_217 mw_216 mw_72 (em_nc_SLo hi0) (em_nc_SLo hi0) (em_sh_SLo hi0) (em_sh_SLo hi0) rfl ha_5 ha_6 ha_7 ha_8 ha_9 (by decide) (Nat.le_of_ble_eq_true rfl) ?_
    refine g_nameM (fun M_10 eM_10 => ?_)
    have hw := hw M_10 eM_10
    refine g_aload_n C 1 0 d_SL_drop_41 rfl rfl ?_
    refine g_dup C d_SL_drop_42 rfl ?_
    refine g_geti C (4 + 3 * i0) 2 rfl d_SL_drop_43 (em_nc_SL hi0) (em_sh_SL hi0) rfl (by decide) rfl in_SL mw_94 rfl ?_
    refine g_iconst (v := (nI 1)) C d_SL_drop_46 (by decide) ?_
    refine g_isub C d_SL_drop_47 ?_
    refine g_puti C (4 + 3 * i0) 2 rfl ty_SL tyok_SL nm_SL d_SL_drop_48 (em_nc_SL hi0) (em_sh_SL hi0) rfl (by decide) rfl in_SL mw_94 rfl rfl rfl rfl rfl ?_
    refine g_nameM (fun M_11 eM_11 => ?_)
    have hw := hw M_11 eM_11
    refine g_aload_n C 1 0 d_SL_drop_51 rfl rfl ?_
    refine g_getr C (4 + 3 * i0) 1 rfl d_SL_drop_52 (em_nc_SL hi0) (em_sh_SL hi0) rfl (by decide) rfl in_SL mw_93 rfl ?_
    refine g_iload_n C 2 1 d_SL_drop_55 rfl rfl ?_
    refine g_iconst (v := (nI 0)) C d_SL_drop_56 (by decide) ?_
    refine g_iast C (6 + 3 * i0) rfl d_SL_drop_57 (em_nc_SLs hi0) (em_sh_SLs hi0) rfl hb_1 ?_
    refine g_nameM (fun M_12 eM_12 => ?_)
    have hw := hw M_12 eM_12
    refine g_iconst (v := (nI 1)) C d_SL_drop_58 (by decide) ?_
    exact g_zret C hQ rfl rfl d_SL_drop_59 hw
  · have hw := hw.2 hc_2
    refine g_iconst (v := (nI 0)) C d_SL_drop_9 (by decide) ?_
    exact g_zret C hQ rfl rfl d_SL_drop_10 hw
theorem c_SL_drop {l : Launch} {D : va_G} {b0 : Nat} {cT : Nat → ClassId} {ad : Nat → Nat} {post : Int32 → em_M → Prop} {i0 : Nat} {x1 : Int32} {M : em_M} (hi0 : i0 < 12) (hw : wp_SL_drop post i0 x1 M) : Met l y_SL_drop (.code y_SL_drop b_SL_drop 3 (some .boolean) :: wAll) rm_SL_drop (va_Pc [.ref (ad (4 + 3 * i0)), .int x1] (em_U D b0 cT ad (SH ad) NC M)) (va_Qi post (em_U D b0 cT ad (SH ad) NC) (em_A b0)) 0 0 (em_A b0) :=
  em_met (by decide) rfl (Nat.le_of_ble_eq_true rfl) (fun X C _ _ hQ => v_SL_drop hi0 C hQ hw)
