/-! THE WALKS, written by wip/gen -/
set_option maxHeartbeats 4000000 in
set_option maxRecDepth 100000 in
theorem v_MD_in {X : em_X} {D : va_G} {b0 : Nat} {cT : Nat → ClassId} {ad : Nat → Nat} {post : Int32 → Prop} {x0 : Int32} {x1 : Int32} {x2 : Int32} {M : em_M}  (C : em_Cx X D b0 cT R_MD b_MD_in (some .boolean) 3 rm_MD_in) (hQ : xQ X = MQ (xB X) (va_Qi (fun r M1 => M = M1 ∧ post r) (em_U D b0 cT ad (SH ad) NC) (em_A b0)) (xA X) (xS X) 0 0 (em_A b0)) (hw : wp_MD_in post x0 x1 x2 M) : em_G X D b0 cT ad 3 (SH ad) NC 0 0 M 0 [(0, .int x0), (1, .int x1), (2, .int x2)] [] := by
  unfold wp_MD_in at hw
  refine g_iload_n C 0 0 d_MD_in_0 rfl rfl ?_
  refine g_iload_n C 1 1 d_MD_in_1 rfl rfl ?_
  refine g_icmp_lt (tgt := 14) C d_MD_in_2 (by decide) (fun hc_1 => ?_) (fun hc_1 => ?_)
  · have hw := hw.1 hc_1
    refine g_iconst (v := (nI 0)) C d_MD_in_14 (by decide) ?_
    exact g_zret C hQ rfl rfl d_MD_in_15 ⟨rfl, hw⟩
  · have hw := hw.2 hc_1
    refine g_iload_n C 0 0 d_MD_in_5 rfl rfl ?_
    refine g_iload_n C 2 2 d_MD_in_6 rfl rfl ?_
    refine g_icmp_gt (tgt := 14) C d_MD_in_7 (by decide) (fun hc_2 => ?_) (fun hc_2 => ?_)
    · have hw := hw.1 hc_2
      refine g_iconst (v := (nI 0)) C d_MD_in_14 (by decide) ?_
      exact g_zret C hQ rfl rfl d_MD_in_15 ⟨rfl, hw⟩
    · have hw := hw.2 hc_2
      refine g_iconst (v := (nI 1)) C d_MD_in_10 (by decide) ?_
      refine g_goto (tgt := 15) C d_MD_in_11 (by decide) ?_
      exact g_zret C hQ rfl rfl d_MD_in_15 ⟨rfl, hw⟩
theorem c_MD_in {l : Launch} {D : va_G} {b0 : Nat} {cT : Nat → ClassId} {ad : Nat → Nat} {post : Int32 → Prop} {x0 : Int32} {x1 : Int32} {x2 : Int32} {M : em_M}  (hw : wp_MD_in post x0 x1 x2 M) : Met l y_MD_in (.code y_MD_in b_MD_in 3 (some .boolean) :: wAll) rm_MD_in (va_Pc [.int x0, .int x1, .int x2] (em_U D b0 cT ad (SH ad) NC M)) (va_Qi (fun r M1 => M = M1 ∧ post r) (em_U D b0 cT ad (SH ad) NC) (em_A b0)) 0 0 (em_A b0) :=
  em_met (by decide) rfl (Nat.le_of_ble_eq_true rfl) (fun X C _ _ hQ => v_MD_in  C hQ hw)
set_option maxHeartbeats 4000000 in
set_option maxRecDepth 100000 in
theorem v_MD_at {X : em_X} {D : va_G} {b0 : Nat} {cT : Nat → ClassId} {ad : Nat → Nat} {post : Int32 → Prop} {x1 : Int32} {x2 : Int32} {M : em_M}  (C : em_Cx X D b0 cT R_MD b_MD_at (some .int) 3 rm_MD_at) (hQ : xQ X = MQ (xB X) (va_Qi (fun r M1 => M = M1 ∧ post r) (em_U D b0 cT ad (SH ad) NC) (em_A b0)) (xA X) (xS X) 0 0 (em_A b0)) (hw : wp_MD_at post x1 x2 M) : em_G X D b0 cT ad 3 (SH ad) NC 0 0 M 0 [(0, .ref (ad (52))), (1, .int x1), (2, .int x2)] [] := by
  unfold wp_MD_at at hw
  refine g_aload_n C 0 0 d_MD_at_0 rfl rfl ?_
  refine g_getr C 52 1 rfl d_MD_at_1 em_nc_MD em_sh_MD rfl (by decide) rfl in_MD mw_400 rfl ?_
  refine g_sipush (v := (nI 512)) C d_MD_at_4 (by decide) ?_
  refine g_iload_n C 1 1 d_MD_at_7 rfl rfl ?_
  refine g_imul C d_MD_at_8 ?_
  refine g_iload_n C 2 2 d_MD_at_9 rfl rfl ?_
  refine g_iadd C d_MD_at_10 ?_
  obtain ⟨hb_1, hw⟩ := hw
  refine g_iald C 53 rfl d_MD_at_11 em_nc_mScore em_sh_mScore rfl hb_1 ?_
  exact g_iret C hQ rfl d_MD_at_12 ⟨rfl, hw⟩
theorem c_MD_at {l : Launch} {D : va_G} {b0 : Nat} {cT : Nat → ClassId} {ad : Nat → Nat} {post : Int32 → Prop} {x1 : Int32} {x2 : Int32} {M : em_M}  (hw : wp_MD_at post x1 x2 M) : Met l y_MD_at (.code y_MD_at b_MD_at 3 (some .int) :: wAll) rm_MD_at (va_Pc [.ref (ad (52)), .int x1, .int x2] (em_U D b0 cT ad (SH ad) NC M)) (va_Qi (fun r M1 => M = M1 ∧ post r) (em_U D b0 cT ad (SH ad) NC) (em_A b0)) 0 0 (em_A b0) :=
  em_met (by decide) rfl (Nat.le_of_ble_eq_true rfl) (fun X C _ _ hQ => v_MD_at  C hQ hw)
set_option maxHeartbeats 4000000 in
set_option maxRecDepth 100000 in
theorem v_MD_size {X : em_X} {D : va_G} {b0 : Nat} {cT : Nat → ClassId} {ad : Nat → Nat} {post : Int32 → Prop} {x1 : Int32} {M : em_M}  (C : em_Cx X D b0 cT R_MD b_MD_size (some .int) 4 rm_MD_size) (hQ : xQ X = MQ (xB X) (va_Qi (fun r M1 => M = M1 ∧ post r) (em_U D b0 cT ad (SH ad) NC) (em_A b0)) (xA X) (xS X) 0 0 (em_A b0)) (hw : wp_MD_size post x1 M) : em_G X D b0 cT ad 4 (SH ad) NC 0 0 M 0 [(0, .ref (ad (52))), (1, .int x1)] [] := by
  unfold wp_MD_size at hw
  refine g_iconst (v := (nI 0)) C d_MD_size_0 (by decide) ?_
  refine g_istore_n (lv' := [(2, .int (nI 0)), (0, .ref (ad (52))), (1, .int x1)]) C 2 d_MD_size_1 rfl (by decide) rfl ?_
  refine g_iconst (v := (nI 0)) C d_MD_size_2 (by decide) ?_
  refine g_istore_n (lv' := [(3, .int (nI 0)), (2, .int (nI 0)), (0, .ref (ad (52))), (1, .int x1)]) C 3 d_MD_size_3 rfl (by decide) rfl ?_
  obtain ⟨I_1, mu_1, h0, hw⟩ := hw
  refine g_sub [2, 3, 1, 0] rfl ?_
  have lp_1 : ∀ (n_1 : Nat) (x2_2 : Int32) (x3_3 : Int32) , mu_1 x2_2 x3_3 < n_1 → I_1 x2_2 x3_3 → em_G X D b0 cT ad 4 (SH ad) NC 0 0 M 4 [(0, .ref (ad (52))), (1, .int x1), (2, .int x2_2), (3, .int x3_3)] [] := by
    intro n_1
    induction n_1 with
    | zero => intro x2_2 x3_3 h; exact absurd h (Nat.not_lt_zero _)
    | succ n_1 ih_1 =>
      intro x2_2 x3_3 hn_1 hi
      have hw := hw x2_2 x3_3 hi
      refine g_iload_n C 3 3 d_MD_size_4 rfl rfl ?_
      refine g_sipush (v := (nI 512)) C d_MD_size_5 (by decide) ?_
      refine g_icmp_ge (tgt := 34) C d_MD_size_8 (by decide) (fun hc_4 => ?_) (fun hc_4 => ?_)
      · have hw := hw.1 hc_4
        refine g_iload_n C 2 2 d_MD_size_34 rfl rfl ?_
        exact g_iret C hQ rfl d_MD_size_35 ⟨rfl, hw⟩
      · have hw := hw.2 hc_4
        refine g_aload_n C 0 0 d_MD_size_11 rfl rfl ?_
        refine g_iload_n C 1 1 d_MD_size_12 rfl rfl ?_
        refine g_iload_n C 3 3 d_MD_size_13 rfl rfl ?_
        refine g_callVi C 52 rfl [.int x1, .int x3_3] [] (c_MD_at  hw) (em_cwV C 2 mw_456 mw_457 mw_42 mw_71 mw_458 rfl rfl (by decide +kernel) (by decide)) em_nc_MD em_sh_MD rfl rfl rfl (Nat.le_of_ble_eq_true rfl) d_MD_size_14 (by decide) (fun r_6 M_5 hw => ?_)
        obtain ⟨rfl, hw⟩ := hw
        obtain ⟨J_7, hJ_7, hw⟩ := em_jn1 hw
        have j_7 : ∀ (z_9 : Int32) , J_7 z_9 → em_G X D b0 cT ad 4 (SH ad) NC 0 0 M 27 [(0, .ref (ad (52))), (1, .int x1), (2, .int x2_2), (3, .int x3_3)] [.int z_9] := by
          intro z_9 hw
          have hw := hJ_7 z_9 hw
          refine g_istore_n (lv' := [(2, .int z_9), (0, .ref (ad (52))), (1, .int x1), (3, .int x3_3)]) C 2 d_MD_size_27 rfl (by decide) rfl ?_
          obtain ⟨x3_10, ex3_10⟩ : ∃ y : Int32, y = x3_3 + nI 1 := ⟨_, rfl⟩
          have hw := hw x3_10 ex3_10
          refine g_iinc (v := x3_10) (lv' := [(3, .int x3_10), (2, .int z_9), (0, .ref (ad (52))), (1, .int x1)]) C 3 d_MD_size_28 rfl (by rw [ex3_10]; first | rfl | (congr 1)) (by decide) rfl ?_
          refine g_goto (tgt := 4) C d_MD_size_31 (by decide) ?_
          refine g_sub [2, 3, 1, 0] rfl ?_
          exact ih_1 z_9 x3_10 (Nat.lt_of_lt_of_le hw.2 (Nat.le_of_lt_succ hn_1)) hw.1
        refine g_if_le (tgt := 26) C d_MD_size_17 (by decide) (fun hc_11 => ?_) (fun hc_11 => ?_)
        · have hw := hw.1 hc_11
          refine g_iload_n C 2 2 d_MD_size_26 rfl rfl ?_
          refine g_sub [0, 1, 2, 3] rfl ?_
          exact j_7 x2_2 hw
        · have hw := hw.2 hc_11
          refine g_iload_n C 2 2 d_MD_size_20 rfl rfl ?_
          refine g_iconst (v := (nI 1)) C d_MD_size_21 (by decide) ?_
          refine g_iadd C d_MD_size_22 ?_
          refine g_goto (tgt := 27) C d_MD_size_23 (by decide) ?_
          refine g_sub [0, 1, 2, 3] rfl ?_
          exact j_7 (x2_2 + (nI 1)) hw
  exact lp_1 _ (nI 0) (nI 0) (Nat.lt_succ_self _) h0
theorem c_MD_size {l : Launch} {D : va_G} {b0 : Nat} {cT : Nat → ClassId} {ad : Nat → Nat} {post : Int32 → Prop} {x1 : Int32} {M : em_M}  (hw : wp_MD_size post x1 M) : Met l y_MD_size (.code y_MD_size b_MD_size 4 (some .int) :: wAll) rm_MD_size (va_Pc [.ref (ad (52)), .int x1] (em_U D b0 cT ad (SH ad) NC M)) (va_Qi (fun r M1 => M = M1 ∧ post r) (em_U D b0 cT ad (SH ad) NC) (em_A b0)) 0 0 (em_A b0) :=
  em_met (by decide) rfl (Nat.le_of_ble_eq_true rfl) (fun X C _ _ hQ => v_MD_size  C hQ hw)
set_option maxHeartbeats 4000000 in
set_option maxRecDepth 100000 in
theorem v_MD_entry {X : em_X} {D : va_G} {b0 : Nat} {cT : Nat → ClassId} {ad : Nat → Nat} {post : Int32 → em_M → Prop} {x1 : Int32} {x2 : Int32} {x3 : Int32} {M : em_M}  (C : em_Cx X D b0 cT R_MD b_MD_entry (some .int) 4 rm_MD_entry) (hQ : xQ X = MQ (xB X) (va_Qi post (em_U D b0 cT ad (SH ad) NC) (em_A b0)) (xA X) (xS X) 0 0 (em_A b0)) (hw : wp_MD_entry post x1 x2 x3 M) : em_G X D b0 cT ad 4 (SH ad) NC 0 0 M 0 [(0, .ref (ad (52))), (1, .int x1), (2, .int x2), (3, .int x3)] [] := by
  unfold wp_MD_entry at hw
  refine g_aload_n C 0 0 d_MD_entry_0 rfl rfl ?_
  refine g_iconst (v := (nI 0)) C d_MD_entry_1 (by decide) ?_
  refine g_puti C 52 0 rfl ty_MD tyok_MD nm_MD d_MD_entry_2 em_nc_MD em_sh_MD rfl (by decide) rfl in_MD mw_399 rfl rfl rfl rfl rfl ?_
  refine g_nameM (fun M_1 eM_1 => ?_)
  have hw := hw M_1 eM_1
  refine g_iload_n C 1 1 d_MD_entry_5 rfl rfl ?_
  refine g_iconst (v := (nI 0)) C d_MD_entry_6 (by decide) ?_
  refine g_bipush (v := (nI 11)) C d_MD_entry_7 (by decide) ?_
  refine g_callSi C [.int x1, .int (nI 0), .int (nI 11)] [] (c_MD_in  hw) (em_cwS C 3 mw_453 mw_454 mw_71 mw_455 rfl rfl (by decide +kernel) (by decide)) rfl rfl (Nat.le_of_ble_eq_true rfl) d_MD_entry_9 (by decide) (fun r_3 M_2 hw => ?_)
  obtain ⟨rfl, hw⟩ := hw
  refine g_if_eq (tgt := 36) C d_MD_entry_12 (by decide) (fun hc_4 => ?_) (fun hc_4 => ?_)
  · have hw := hw.1 hc_4
    refine g_iconst (v := (-1 : Int32)) C d_MD_entry_36 (by decide) ?_
    exact g_iret C hQ rfl d_MD_entry_37 hw
  · have hw := hw.2 hc_4
    refine g_iload_n C 2 2 d_MD_entry_15 rfl rfl ?_
    refine g_iconst (v := (nI 0)) C d_MD_entry_16 (by decide) ?_
    refine g_sipush (v := (nI 511)) C d_MD_entry_17 (by decide) ?_
    refine g_callSi C [.int x2, .int (nI 0), .int (nI 511)] [] (c_MD_in  hw) (em_cwS C 3 mw_453 mw_454 mw_71 mw_455 rfl rfl (by decide +kernel) (by decide)) rfl rfl (Nat.le_of_ble_eq_true rfl) d_MD_entry_20 (by decide) (fun r_6 M_5 hw => ?_)
    obtain ⟨rfl, hw⟩ := hw
    refine g_if_eq (tgt := 36) C d_MD_entry_23 (by decide) (fun hc_7 => ?_) (fun hc_7 => ?_)
    · have hw := hw.1 hc_7
      refine g_iconst (v := (-1 : Int32)) C d_MD_entry_36 (by decide) ?_
      exact g_iret C hQ rfl d_MD_entry_37 hw
    · have hw := hw.2 hc_7
      refine g_iload_n C 3 3 d_MD_entry_26 rfl rfl ?_
      refine g_iconst (v := (nI 1)) C d_MD_entry_27 (by decide) ?_
      refine g_bipush (v := (nI 100)) C d_MD_entry_28 (by decide) ?_
      refine g_callSi C [.int x3, .int (nI 1), .int (nI 100)] [] (c_MD_in  hw) (em_cwS C 3 mw_453 mw_454 mw_71 mw_455 rfl rfl (by decide +kernel) (by decide)) rfl rfl (Nat.le_of_ble_eq_true rfl) d_MD_entry_30 (by decide) (fun r_9 M_8 hw => ?_)
      obtain ⟨rfl, hw⟩ := hw
      refine g_if_ne (tgt := 38) C d_MD_entry_33 (by decide) (fun hc_10 => ?_) (fun hc_10 => ?_)
      · have hw := hw.1 hc_10
        refine g_aload_n C 0 0 d_MD_entry_38 rfl rfl ?_
        refine g_iload_n C 1 1 d_MD_entry_39 rfl rfl ?_
        refine g_iload_n C 2 2 d_MD_entry_40 rfl rfl ?_
        refine g_callVi C 52 rfl [.int x1, .int x2] [] (c_MD_at  hw) (em_cwV C 2 mw_456 mw_457 mw_42 mw_71 mw_458 rfl rfl (by decide +kernel) (by decide)) em_nc_MD em_sh_MD rfl rfl rfl (Nat.le_of_ble_eq_true rfl) d_MD_entry_41 (by decide) (fun r_12 M_11 hw => ?_)
        obtain ⟨rfl, hw⟩ := hw
        obtain ⟨J_13, hJ_13, hw⟩ := em_jn0 hw
        have j_13 : J_13 → em_G X D b0 cT ad 4 (SH ad) NC 0 0 M_1 60 [(0, .ref (ad (52))), (1, .int x1), (2, .int x2), (3, .int x3)] [] := by
          intro  hw
          have hw := hJ_13  hw
          refine g_aload_n C 0 0 d_MD_entry_60 rfl rfl ?_
          refine g_getr C 52 1 rfl d_MD_entry_61 em_nc_MD em_sh_MD rfl (by decide) rfl in_MD mw_400 rfl ?_
          refine g_sipush (v := (nI 512)) C d_MD_entry_64 (by decide) ?_
          refine g_iload_n C 1 1 d_MD_entry_67 rfl rfl ?_
          refine g_imul C d_MD_entry_68 ?_
          refine g_iload_n C 2 2 d_MD_entry_69 rfl rfl ?_
          refine g_iadd C d_MD_entry_70 ?_
          refine g_iload_n C 3 3 d_MD_entry_71 rfl rfl ?_
          obtain ⟨hb_18, hw⟩ := hw
          refine g_iast C 53 rfl d_MD_entry_72 em_nc_mScore em_sh_mScore rfl hb_18 ?_
          refine g_nameM (fun M_19 eM_19 => ?_)
          have hw := hw M_19 eM_19
          refine g_aload_n C 0 0 d_MD_entry_73 rfl rfl ?_
          refine g_iload_n C 1 1 d_MD_entry_74 rfl rfl ?_
          refine g_callVi C 52 rfl [.int x1] [] (c_MD_size  hw) (em_cwV C 1 mw_459 mw_460 mw_43 mw_71 mw_461 rfl rfl (by decide +kernel) (by decide)) em_nc_MD em_sh_MD rfl rfl rfl (Nat.le_of_ble_eq_true rfl) d_MD_entry_75 (by decide) (fun r_21 M_20 hw => ?_)
          obtain ⟨rfl, hw⟩ := hw
          exact g_iret C hQ rfl d_MD_entry_78 hw
        refine g_if_ne (tgt := 60) C d_MD_entry_44 (by decide) (fun hc_22 => ?_) (fun hc_22 => ?_)
        · have hw := hw.1 hc_22
          refine g_sub [0, 1, 2, 3] rfl ?_
          exact j_13  hw
        · have hw := hw.2 hc_22
          refine g_aload_n C 0 0 d_MD_entry_47 rfl rfl ?_
          refine g_iload_n C 1 1 d_MD_entry_48 rfl rfl ?_
          refine g_callVi C 52 rfl [.int x1] [] (c_MD_size  hw) (em_cwV C 1 mw_459 mw_460 mw_43 mw_71 mw_461 rfl rfl (by decide +kernel) (by decide)) em_nc_MD em_sh_MD rfl rfl rfl (Nat.le_of_ble_eq_true rfl) d_MD_entry_49 (by decide) (fun r_24 M_23 hw => ?_)
          obtain ⟨rfl, hw⟩ := hw
          refine g_bipush (v := (nI 120)) C d_MD_entry_52 (by decide) ?_
          refine g_icmp_ne (tgt := 60) C d_MD_entry_54 (by decide) (fun hc_25 => ?_) (fun hc_25 => ?_)
          · have hw := hw.1 hc_25
            refine g_sub [0, 1, 2, 3] rfl ?_
            exact j_13  hw
          · have hw := hw.2 hc_25
            refine g_bipush (v := (-3 : Int32)) C d_MD_entry_57 (by decide) ?_
            exact g_iret C hQ rfl d_MD_entry_59 hw
      · have hw := hw.2 hc_10
        refine g_iconst (v := (-1 : Int32)) C d_MD_entry_36 (by decide) ?_
        exact g_iret C hQ rfl d_MD_entry_37 hw
theorem c_MD_entry {l : Launch} {D : va_G} {b0 : Nat} {cT : Nat → ClassId} {ad : Nat → Nat} {post : Int32 → em_M → Prop} {x1 : Int32} {x2 : Int32} {x3 : Int32} {M : em_M}  (hw : wp_MD_entry post x1 x2 x3 M) : Met l y_MD_entry (.code y_MD_entry b_MD_entry 4 (some .int) :: wAll) rm_MD_entry (va_Pc [.ref (ad (52)), .int x1, .int x2, .int x3] (em_U D b0 cT ad (SH ad) NC M)) (va_Qi post (em_U D b0 cT ad (SH ad) NC) (em_A b0)) 0 0 (em_A b0) :=
  em_met (by decide) rfl (Nat.le_of_ble_eq_true rfl) (fun X C _ _ hQ => v_MD_entry  C hQ hw)
set_option maxHeartbeats 4000000 in
set_option maxRecDepth 100000 in
theorem v_MD_lose {X : em_X} {D : va_G} {b0 : Nat} {cT : Nat → ClassId} {ad : Nat → Nat} {post : Int32 → em_M → Prop} {x1 : Int32} {x2 : Int32} {M : em_M}  (C : em_Cx X D b0 cT R_MD b_MD_lose (some .int) 3 rm_MD_lose) (hQ : xQ X = MQ (xB X) (va_Qi post (em_U D b0 cT ad (SH ad) NC) (em_A b0)) (xA X) (xS X) 0 0 (em_A b0)) (hw : wp_MD_lose post x1 x2 M) : em_G X D b0 cT ad 3 (SH ad) NC 0 0 M 0 [(0, .ref (ad (52))), (1, .int x1), (2, .int x2)] [] := by
  unfold wp_MD_lose at hw
  refine g_aload_n C 0 0 d_MD_lose_0 rfl rfl ?_
  refine g_iconst (v := (nI 0)) C d_MD_lose_1 (by decide) ?_
  refine g_puti C 52 0 rfl ty_MD tyok_MD nm_MD d_MD_lose_2 em_nc_MD em_sh_MD rfl (by decide) rfl in_MD mw_399 rfl rfl rfl rfl rfl ?_
  refine g_nameM (fun M_1 eM_1 => ?_)
  have hw := hw M_1 eM_1
  refine g_iload_n C 1 1 d_MD_lose_5 rfl rfl ?_
  refine g_iconst (v := (nI 0)) C d_MD_lose_6 (by decide) ?_
  refine g_bipush (v := (nI 11)) C d_MD_lose_7 (by decide) ?_
  refine g_callSi C [.int x1, .int (nI 0), .int (nI 11)] [] (c_MD_in  hw) (em_cwS C 3 mw_453 mw_454 mw_71 mw_455 rfl rfl (by decide +kernel) (by decide)) rfl rfl (Nat.le_of_ble_eq_true rfl) d_MD_lose_9 (by decide) (fun r_3 M_2 hw => ?_)
  obtain ⟨rfl, hw⟩ := hw
  refine g_if_eq (tgt := 35) C d_MD_lose_12 (by decide) (fun hc_4 => ?_) (fun hc_4 => ?_)
  · have hw := hw.1 hc_4
    refine g_iconst (v := (-1 : Int32)) C d_MD_lose_35 (by decide) ?_
    exact g_iret C hQ rfl d_MD_lose_36 hw
  · have hw := hw.2 hc_4
    refine g_iload_n C 2 2 d_MD_lose_15 rfl rfl ?_
    refine g_iconst (v := (nI 0)) C d_MD_lose_16 (by decide) ?_
    refine g_sipush (v := (nI 511)) C d_MD_lose_17 (by decide) ?_
    refine g_callSi C [.int x2, .int (nI 0), .int (nI 511)] [] (c_MD_in  hw) (em_cwS C 3 mw_453 mw_454 mw_71 mw_455 rfl rfl (by decide +kernel) (by decide)) rfl rfl (Nat.le_of_ble_eq_true rfl) d_MD_lose_20 (by decide) (fun r_6 M_5 hw => ?_)
    obtain ⟨rfl, hw⟩ := hw
    refine g_if_eq (tgt := 35) C d_MD_lose_23 (by decide) (fun hc_7 => ?_) (fun hc_7 => ?_)
    · have hw := hw.1 hc_7
      refine g_iconst (v := (-1 : Int32)) C d_MD_lose_35 (by decide) ?_
      exact g_iret C hQ rfl d_MD_lose_36 hw
    · have hw := hw.2 hc_7
      refine g_aload_n C 0 0 d_MD_lose_26 rfl rfl ?_
      refine g_iload_n C 1 1 d_MD_lose_27 rfl rfl ?_
      refine g_iload_n C 2 2 d_MD_lose_28 rfl rfl ?_
      refine g_callVi C 52 rfl [.int x1, .int x2] [] (c_MD_at  hw) (em_cwV C 2 mw_456 mw_457 mw_42 mw_71 mw_458 rfl rfl (by decide +kernel) (by decide)) em_nc_MD em_sh_MD rfl rfl rfl (Nat.le_of_ble_eq_true rfl) d_MD_lose_29 (by decide) (fun r_9 M_8 hw => ?_)
      obtain ⟨rfl, hw⟩ := hw
      refine g_if_ne (tgt := 37) C d_MD_lose_32 (by decide) (fun hc_10 => ?_) (fun hc_10 => ?_)
      · have hw := hw.1 hc_10
        refine g_aload_n C 0 0 d_MD_lose_37 rfl rfl ?_
        refine g_getr C 52 1 rfl d_MD_lose_38 em_nc_MD em_sh_MD rfl (by decide) rfl in_MD mw_400 rfl ?_
        refine g_sipush (v := (nI 512)) C d_MD_lose_41 (by decide) ?_
        refine g_iload_n C 1 1 d_MD_lose_44 rfl rfl ?_
        refine g_imul C d_MD_lose_45 ?_
        refine g_iload_n C 2 2 d_MD_lose_46 rfl rfl ?_
        refine g_iadd C d_MD_lose_47 ?_
        refine g_iconst (v := (nI 0)) C d_MD_lose_48 (by decide) ?_
        obtain ⟨hb_11, hw⟩ := hw
        refine g_iast C 53 rfl d_MD_lose_49 em_nc_mScore em_sh_mScore rfl hb_11 ?_
        refine g_nameM (fun M_12 eM_12 => ?_)
        have hw := hw M_12 eM_12
        refine g_aload_n C 0 0 d_MD_lose_50 rfl rfl ?_
        refine g_iload_n C 1 1 d_MD_lose_51 rfl rfl ?_
        refine g_callVi C 52 rfl [.int x1] [] (c_MD_size  hw) (em_cwV C 1 mw_459 mw_460 mw_43 mw_71 mw_461 rfl rfl (by decide +kernel) (by decide)) em_nc_MD em_sh_MD rfl rfl rfl (Nat.le_of_ble_eq_true rfl) d_MD_lose_52 (by decide) (fun r_14 M_13 hw => ?_)
        obtain ⟨rfl, hw⟩ := hw
        exact g_iret C hQ rfl d_MD_lose_55 hw
      · have hw := hw.2 hc_10
        refine g_iconst (v := (-1 : Int32)) C d_MD_lose_35 (by decide) ?_
        exact g_iret C hQ rfl d_MD_lose_36 hw
theorem c_MD_lose {l : Launch} {D : va_G} {b0 : Nat} {cT : Nat → ClassId} {ad : Nat → Nat} {post : Int32 → em_M → Prop} {x1 : Int32} {x2 : Int32} {M : em_M}  (hw : wp_MD_lose post x1 x2 M) : Met l y_MD_lose (.code y_MD_lose b_MD_lose 3 (some .int) :: wAll) rm_MD_lose (va_Pc [.ref (ad (52)), .int x1, .int x2] (em_U D b0 cT ad (SH ad) NC M)) (va_Qi post (em_U D b0 cT ad (SH ad) NC) (em_A b0)) 0 0 (em_A b0) :=
  em_met (by decide) rfl (Nat.le_of_ble_eq_true rfl) (fun X C _ _ hQ => v_MD_lose  C hQ hw)
set_option maxHeartbeats 4000000 in
set_option maxRecDepth 100000 in
theorem v_MD_key {X : em_X} {D : va_G} {b0 : Nat} {cT : Nat → ClassId} {ad : Nat → Nat} {post : Int32 → em_M → Prop} {x1 : Int32} {x2 : Int32} {M : em_M}  (C : em_Cx X D b0 cT R_MD b_MD_key (some .int) 4 rm_MD_key) (hQ : xQ X = MQ (xB X) (va_Qi post (em_U D b0 cT ad (SH ad) NC) (em_A b0)) (xA X) (xS X) 0 0 (em_A b0)) (hw : wp_MD_key post x1 x2 M) : em_G X D b0 cT ad 4 (SH ad) NC 0 0 M 0 [(0, .ref (ad (52))), (1, .int x1), (2, .int x2)] [] := by
  unfold wp_MD_key at hw
  refine g_aload_n C 0 0 d_MD_key_0 rfl rfl ?_
  refine g_iconst (v := (nI 0)) C d_MD_key_1 (by decide) ?_
  refine g_puti C 52 0 rfl ty_MD tyok_MD nm_MD d_MD_key_2 em_nc_MD em_sh_MD rfl (by decide) rfl in_MD mw_399 rfl rfl rfl rfl rfl ?_
  refine g_nameM (fun M_1 eM_1 => ?_)
  have hw := hw M_1 eM_1
  refine g_iload_n C 1 1 d_MD_key_5 rfl rfl ?_
  refine g_iconst (v := (nI 0)) C d_MD_key_6 (by decide) ?_
  refine g_sipush (v := (nI 511)) C d_MD_key_7 (by decide) ?_
  refine g_callSi C [.int x1, .int (nI 0), .int (nI 511)] [] (c_MD_in  hw) (em_cwS C 3 mw_453 mw_454 mw_71 mw_455 rfl rfl (by decide +kernel) (by decide)) rfl rfl (Nat.le_of_ble_eq_true rfl) d_MD_key_10 (by decide) (fun r_3 M_2 hw => ?_)
  obtain ⟨rfl, hw⟩ := hw
  refine g_if_eq (tgt := 29) C d_MD_key_13 (by decide) (fun hc_4 => ?_) (fun hc_4 => ?_)
  · have hw := hw.1 hc_4
    refine g_iconst (v := (-1 : Int32)) C d_MD_key_29 (by decide) ?_
    exact g_iret C hQ rfl d_MD_key_30 hw
  · have hw := hw.2 hc_4
    refine g_iload_n C 2 2 d_MD_key_16 rfl rfl ?_
    refine g_sipush (v := (-1000 : Int32)) C d_MD_key_17 (by decide) ?_
    refine g_sipush (v := (nI 1000)) C d_MD_key_20 (by decide) ?_
    refine g_callSi C [.int x2, .int (-1000 : Int32), .int (nI 1000)] [] (c_MD_in  hw) (em_cwS C 3 mw_453 mw_454 mw_71 mw_455 rfl rfl (by decide +kernel) (by decide)) rfl rfl (Nat.le_of_ble_eq_true rfl) d_MD_key_23 (by decide) (fun r_6 M_5 hw => ?_)
    obtain ⟨rfl, hw⟩ := hw
    refine g_if_ne (tgt := 31) C d_MD_key_26 (by decide) (fun hc_7 => ?_) (fun hc_7 => ?_)
    · have hw := hw.1 hc_7
      refine g_aload_n C 0 0 d_MD_key_31 rfl rfl ?_
      refine g_getr C 52 2 rfl d_MD_key_32 em_nc_MD em_sh_MD rfl (by decide) rfl in_MD mw_401 rfl ?_
      refine g_iload_n C 1 1 d_MD_key_35 rfl rfl ?_
      obtain ⟨hb_8, hw⟩ := hw
      refine g_iald C 54 rfl d_MD_key_36 em_nc_mKey em_sh_mKey rfl hb_8 ?_
      refine g_topi (fun x3_9 ex3_9 => ?_)
      have hw := hw x3_9 ex3_9
      refine g_istore_n (lv' := [(3, .int x3_9), (0, .ref (ad (52))), (1, .int x1), (2, .int x2)]) C 3 d_MD_key_37 rfl (by decide) rfl ?_
      refine g_aload_n C 1 0 d_MD_key_38 rfl rfl ?_
      refine g_getr C 52 2 rfl d_MD_key_39 em_nc_MD em_sh_MD rfl (by decide) rfl in_MD mw_401 rfl ?_
      refine g_iload_n C 2 1 d_MD_key_42 rfl rfl ?_
      refine g_iload_n C 3 2 d_MD_key_43 rfl rfl ?_
      refine g_iast C 54 rfl d_MD_key_44 em_nc_mKey em_sh_mKey rfl hb_8 ?_
      refine g_nameM (fun M_10 eM_10 => ?_)
      have hw := hw M_10 eM_10
      refine g_iload_n C 0 3 d_MD_key_45 rfl rfl ?_
      refine g_sipush (v := (nI 1000)) C d_MD_key_46 (by decide) ?_
      refine g_iadd C d_MD_key_49 ?_
      exact g_iret C hQ rfl d_MD_key_50 hw
    · have hw := hw.2 hc_7
      refine g_iconst (v := (-1 : Int32)) C d_MD_key_29 (by decide) ?_
      exact g_iret C hQ rfl d_MD_key_30 hw
theorem c_MD_key {l : Launch} {D : va_G} {b0 : Nat} {cT : Nat → ClassId} {ad : Nat → Nat} {post : Int32 → em_M → Prop} {x1 : Int32} {x2 : Int32} {M : em_M}  (hw : wp_MD_key post x1 x2 M) : Met l y_MD_key (.code y_MD_key b_MD_key 4 (some .int) :: wAll) rm_MD_key (va_Pc [.ref (ad (52)), .int x1, .int x2] (em_U D b0 cT ad (SH ad) NC M)) (va_Qi post (em_U D b0 cT ad (SH ad) NC) (em_A b0)) 0 0 (em_A b0) :=
  em_met (by decide) rfl (Nat.le_of_ble_eq_true rfl) (fun X C _ _ hQ => v_MD_key  C hQ hw)
set_option maxHeartbeats 4000000 in
set_option maxRecDepth 100000 in
theorem v_MD_topOf {X : em_X} {D : va_G} {b0 : Nat} {cT : Nat → ClassId} {ad : Nat → Nat} {post : Int32 → Prop} {x1 : Int32} {x2 : Int32} {x3 : Int32} {M : em_M}  (C : em_Cx X D b0 cT R_MD b_MD_topOf (some .int) 7 rm_MD_topOf) (hQ : xQ X = MQ (xB X) (va_Qi (fun r M1 => M = M1 ∧ post r) (em_U D b0 cT ad (SH ad) NC) (em_A b0)) (xA X) (xS X) 0 0 (em_A b0)) (hw : wp_MD_topOf post x1 x2 x3 M) : em_G X D b0 cT ad 7 (SH ad) NC 0 0 M 0 [(0, .ref (ad (52))), (1, .int x1), (2, .int x2), (3, .int x3)] [] := by
  unfold wp_MD_topOf at hw
  refine g_iconst (v := (nI 0)) C d_MD_topOf_0 (by decide) ?_
  refine g_istore (lv' := [(4, .int (nI 0)), (0, .ref (ad (52))), (1, .int x1), (2, .int x2), (3, .int x3)]) C d_MD_topOf_1 (by decide) rfl ?_
  refine g_iconst (v := (nI 0)) C d_MD_topOf_3 (by decide) ?_
  refine g_istore (lv' := [(5, .int (nI 0)), (4, .int (nI 0)), (0, .ref (ad (52))), (1, .int x1), (2, .int x2), (3, .int x3)]) C d_MD_topOf_4 (by decide) rfl ?_
  refine g_iconst (v := (nI 0)) C d_MD_topOf_6 (by decide) ?_
  refine g_istore (lv' := [(6, .int (nI 0)), (5, .int (nI 0)), (4, .int (nI 0)), (0, .ref (ad (52))), (1, .int x1), (2, .int x2), (3, .int x3)]) C d_MD_topOf_7 (by decide) rfl ?_
  obtain ⟨I_1, mu_1, h0, hw⟩ := hw
  refine g_sub [3, 4, 5, 6, 2, 1, 0] rfl ?_
  have lp_1 : ∀ (n_1 : Nat) (x4_2 : Int32) (x5_3 : Int32) (x6_4 : Int32) , mu_1 x4_2 x5_3 x6_4 < n_1 → I_1 x4_2 x5_3 x6_4 → em_G X D b0 cT ad 7 (SH ad) NC 0 0 M 9 [(0, .ref (ad (52))), (1, .int x1), (2, .int x2), (3, .int x3), (4, .int x4_2), (5, .int x5_3), (6, .int x6_4)] [] := by
    intro n_1
    induction n_1 with
    | zero => intro x4_2 x5_3 x6_4 h; exact absurd h (Nat.not_lt_zero _)
    | succ n_1 ih_1 =>
      intro x4_2 x5_3 x6_4 hn_1 hi
      have hw := hw x4_2 x5_3 x6_4 hi
      refine g_iload C 6 d_MD_topOf_9 rfl ?_
      refine g_sipush (v := (nI 512)) C d_MD_topOf_11 (by decide) ?_
      refine g_icmp_ge (tgt := 74) C d_MD_topOf_14 (by decide) (fun hc_5 => ?_) (fun hc_5 => ?_)
      · have hw := hw.1 hc_5
        refine g_iload C 4 d_MD_topOf_74 rfl ?_
        exact g_iret C hQ rfl d_MD_topOf_76 ⟨rfl, hw⟩
      · have hw := hw.2 hc_5
        refine g_aload_n C 0 0 d_MD_topOf_17 rfl rfl ?_
        refine g_iload_n C 1 1 d_MD_topOf_18 rfl rfl ?_
        refine g_iload C 6 d_MD_topOf_19 rfl ?_
        refine g_callVi C 52 rfl [.int x1, .int x6_4] [] (c_MD_at  hw) (em_cwV C 2 mw_456 mw_457 mw_42 mw_71 mw_458 rfl rfl (by decide +kernel) (by decide)) em_nc_MD em_sh_MD rfl rfl rfl (Nat.le_of_ble_eq_true rfl) d_MD_topOf_21 (by decide) (fun r_7 M_6 hw => ?_)
        obtain ⟨rfl, hw⟩ := hw
        obtain ⟨J_8, hJ_8, hw⟩ := em_jn2 hw
        have j_8 : ∀ (x4_21 : Int32) (x5_22 : Int32) , J_8 x4_21 x5_22 → em_G X D b0 cT ad 7 (SH ad) NC 0 0 M 68 [(0, .ref (ad (52))), (1, .int x1), (2, .int x2), (3, .int x3), (4, .int x4_21), (5, .int x5_22), (6, .int x6_4)] [] := by
          intro x4_21 x5_22 hw
          have hw := hJ_8 x4_21 x5_22 hw
          obtain ⟨x6_23, ex6_23⟩ : ∃ y : Int32, y = x6_4 + nI 1 := ⟨_, rfl⟩
          have hw := hw x6_23 ex6_23
          refine g_iinc (v := x6_23) (lv' := [(6, .int x6_23), (0, .ref (ad (52))), (1, .int x1), (2, .int x2), (3, .int x3), (4, .int x4_21), (5, .int x5_22)]) C 6 d_MD_topOf_68 rfl (by rw [ex6_23]; first | rfl | (congr 1)) (by decide) rfl ?_
          refine g_goto (tgt := 9) C d_MD_topOf_71 (by decide) ?_
          refine g_sub [1, 2, 3, 4, 5, 6, 0] rfl ?_
          exact ih_1 x4_21 x5_22 x6_23 (Nat.lt_of_lt_of_le hw.2 (Nat.le_of_lt_succ hn_1)) hw.1
        refine g_if_le (tgt := 68) C d_MD_topOf_24 (by decide) (fun hc_24 => ?_) (fun hc_24 => ?_)
        · have hw := hw.1 hc_24
          refine g_sub [0, 1, 2, 3, 4, 5, 6] rfl ?_
          exact j_8 x4_2 x5_3 hw
        · have hw := hw.2 hc_24
          refine g_iload C 5 d_MD_topOf_27 rfl ?_
          refine g_iload_n C 2 2 d_MD_topOf_29 rfl rfl ?_
          obtain ⟨J_25, hJ_25, hw⟩ := em_jn1 hw
          have j_25 : ∀ (z_33 : Int32) , J_25 z_33 → em_G X D b0 cT ad 7 (SH ad) NC 0 0 M 63 [(0, .ref (ad (52))), (1, .int x1), (2, .int x2), (3, .int x3), (4, .int x4_2), (5, .int x5_3), (6, .int x6_4)] [.int z_33] := by
            intro z_33 hw
            have hw := hJ_25 z_33 hw
            refine g_istore (lv' := [(4, .int z_33), (0, .ref (ad (52))), (1, .int x1), (2, .int x2), (3, .int x3), (5, .int x5_3), (6, .int x6_4)]) C d_MD_topOf_63 (by decide) rfl ?_
            obtain ⟨x5_34, ex5_34⟩ : ∃ y : Int32, y = x5_3 + nI 1 := ⟨_, rfl⟩
            have hw := hw x5_34 ex5_34
            refine g_iinc (v := x5_34) (lv' := [(5, .int x5_34), (4, .int z_33), (0, .ref (ad (52))), (1, .int x1), (2, .int x2), (3, .int x3), (6, .int x6_4)]) C 5 d_MD_topOf_65 rfl (by rw [ex5_34]; first | rfl | (congr 1)) (by decide) rfl ?_
            refine g_sub [2, 3, 4, 5, 1, 0, 6] rfl ?_
            exact j_8 z_33 x5_34 hw
          obtain ⟨J_35, hJ_35, hw⟩ := em_jn0 hw
          have j_35 : J_35 → em_G X D b0 cT ad 7 (SH ad) NC 0 0 M 61 [(0, .ref (ad (52))), (1, .int x1), (2, .int x2), (3, .int x3), (4, .int x4_2), (5, .int x5_3), (6, .int x6_4)] [] := by
            intro  hw
            have hw := hJ_35  hw
            refine g_iload C 4 d_MD_topOf_61 rfl ?_
            refine g_sub [0, 1, 2, 3, 4, 5, 6] rfl ?_
            exact j_25 x4_2 hw
          refine g_icmp_lt (tgt := 61) C d_MD_topOf_30 (by decide) (fun hc_43 => ?_) (fun hc_43 => ?_)
          · have hw := hw.1 hc_43
            refine g_sub [0, 1, 2, 3, 4, 5, 6] rfl ?_
            exact j_35  hw
          · have hw := hw.2 hc_43
            refine g_iload C 5 d_MD_topOf_33 rfl ?_
            refine g_iload_n C 3 3 d_MD_topOf_35 rfl rfl ?_
            refine g_icmp_ge (tgt := 61) C d_MD_topOf_36 (by decide) (fun hc_44 => ?_) (fun hc_44 => ?_)
            · have hw := hw.1 hc_44
              refine g_sub [0, 1, 2, 3, 4, 5, 6] rfl ?_
              exact j_35  hw
            · have hw := hw.2 hc_44
              refine g_aload_n C 0 0 d_MD_topOf_39 rfl rfl ?_
              refine g_iload_n C 1 1 d_MD_topOf_40 rfl rfl ?_
              refine g_iload C 6 d_MD_topOf_41 rfl ?_
              refine g_callVi C 52 rfl [.int x1, .int x6_4] [] (c_MD_at  hw) (em_cwV C 2 mw_456 mw_457 mw_42 mw_71 mw_458 rfl rfl (by decide +kernel) (by decide)) em_nc_MD em_sh_MD rfl rfl rfl (Nat.le_of_ble_eq_true rfl) d_MD_topOf_43 (by decide) (fun r_46 M_45 hw => ?_)
              obtain ⟨rfl, hw⟩ := hw
              refine g_iload C 4 d_MD_topOf_46 rfl ?_
              refine g_icmp_le (tgt := 61) C d_MD_topOf_48 (by decide) (fun hc_47 => ?_) (fun hc_47 => ?_)
              · have hw := hw.1 hc_47
                refine g_sub [0, 1, 2, 3, 4, 5, 6] rfl ?_
                exact j_35  hw
              · have hw := hw.2 hc_47
                refine g_aload_n C 0 0 d_MD_topOf_51 rfl rfl ?_
                refine g_iload_n C 1 1 d_MD_topOf_52 rfl rfl ?_
                refine g_iload C 6 d_MD_topOf_53 rfl ?_
                refine g_callVi C 52 rfl [.int x1, .int x6_4] [] (c_MD_at  hw) (em_cwV C 2 mw_456 mw_457 mw_42 mw_71 mw_458 rfl rfl (by decide +kernel) (by decide)) em_nc_MD em_sh_MD rfl rfl rfl (Nat.le_of_ble_eq_true rfl) d_MD_topOf_55 (by decide) (fun r_49 M_48 hw => ?_)
                obtain ⟨rfl, hw⟩ := hw
                refine g_goto (tgt := 63) C d_MD_topOf_58 (by decide) ?_
                refine g_sub [0, 1, 2, 3, 4, 5, 6] rfl ?_
                exact j_25 r_49 hw
  exact lp_1 _ (nI 0) (nI 0) (nI 0) (Nat.lt_succ_self _) h0
theorem c_MD_topOf {l : Launch} {D : va_G} {b0 : Nat} {cT : Nat → ClassId} {ad : Nat → Nat} {post : Int32 → Prop} {x1 : Int32} {x2 : Int32} {x3 : Int32} {M : em_M}  (hw : wp_MD_topOf post x1 x2 x3 M) : Met l y_MD_topOf (.code y_MD_topOf b_MD_topOf 7 (some .int) :: wAll) rm_MD_topOf (va_Pc [.ref (ad (52)), .int x1, .int x2, .int x3] (em_U D b0 cT ad (SH ad) NC M)) (va_Qi (fun r M1 => M = M1 ∧ post r) (em_U D b0 cT ad (SH ad) NC) (em_A b0)) 0 0 (em_A b0) :=
  em_met (by decide) rfl (Nat.le_of_ble_eq_true rfl) (fun X C _ _ hQ => v_MD_topOf  C hQ hw)
set_option maxHeartbeats 4000000 in
set_option maxRecDepth 100000 in
theorem v_MD_top {X : em_X} {D : va_G} {b0 : Nat} {cT : Nat → ClassId} {ad : Nat → Nat} {post : Int32 → em_M → Prop} {x1 : Int32} {x2 : Int32} {M : em_M}  (C : em_Cx X D b0 cT R_MD b_MD_top (some .int) 3 rm_MD_top) (hQ : xQ X = MQ (xB X) (va_Qi post (em_U D b0 cT ad (SH ad) NC) (em_A b0)) (xA X) (xS X) 0 0 (em_A b0)) (hw : wp_MD_top post x1 x2 M) : em_G X D b0 cT ad 3 (SH ad) NC 0 0 M 0 [(0, .ref (ad (52))), (1, .int x1), (2, .int x2)] [] := by
  unfold wp_MD_top at hw
  refine g_aload_n C 0 0 d_MD_top_0 rfl rfl ?_
  refine g_iconst (v := (nI 0)) C d_MD_top_1 (by decide) ?_
  refine g_puti C 52 0 rfl ty_MD tyok_MD nm_MD d_MD_top_2 em_nc_MD em_sh_MD rfl (by decide) rfl in_MD mw_399 rfl rfl rfl rfl rfl ?_
  refine g_nameM (fun M_1 eM_1 => ?_)
  have hw := hw M_1 eM_1
  refine g_iload_n C 1 1 d_MD_top_5 rfl rfl ?_
  refine g_iconst (v := (nI 0)) C d_MD_top_6 (by decide) ?_
  refine g_bipush (v := (nI 11)) C d_MD_top_7 (by decide) ?_
  refine g_callSi C [.int x1, .int (nI 0), .int (nI 11)] [] (c_MD_in  hw) (em_cwS C 3 mw_453 mw_454 mw_71 mw_455 rfl rfl (by decide +kernel) (by decide)) rfl rfl (Nat.le_of_ble_eq_true rfl) d_MD_top_9 (by decide) (fun r_3 M_2 hw => ?_)
  obtain ⟨rfl, hw⟩ := hw
  refine g_if_eq (tgt := 42) C d_MD_top_12 (by decide) (fun hc_4 => ?_) (fun hc_4 => ?_)
  · have hw := hw.1 hc_4
    refine g_iconst (v := (-1 : Int32)) C d_MD_top_42 (by decide) ?_
    exact g_iret C hQ rfl d_MD_top_43 hw
  · have hw := hw.2 hc_4
    refine g_iload_n C 2 2 d_MD_top_15 rfl rfl ?_
    refine g_iconst (v := (-1 : Int32)) C d_MD_top_16 (by decide) ?_
    refine g_icmp_lt (tgt := 42) C d_MD_top_17 (by decide) (fun hc_5 => ?_) (fun hc_5 => ?_)
    · have hw := hw.1 hc_5
      refine g_iconst (v := (-1 : Int32)) C d_MD_top_42 (by decide) ?_
      exact g_iret C hQ rfl d_MD_top_43 hw
    · have hw := hw.2 hc_5
      refine g_iload_n C 2 2 d_MD_top_20 rfl rfl ?_
      refine g_bipush (v := (nI 120)) C d_MD_top_21 (by decide) ?_
      refine g_icmp_gt (tgt := 42) C d_MD_top_23 (by decide) (fun hc_6 => ?_) (fun hc_6 => ?_)
      · have hw := hw.1 hc_6
        refine g_iconst (v := (-1 : Int32)) C d_MD_top_42 (by decide) ?_
        exact g_iret C hQ rfl d_MD_top_43 hw
      · have hw := hw.2 hc_6
        refine g_iload_n C 2 2 d_MD_top_26 rfl rfl ?_
        obtain ⟨J_7, hJ_7, hw⟩ := em_jn0 hw
        have j_7 : J_7 → em_G X D b0 cT ad 3 (SH ad) NC 0 0 M_1 44 [(0, .ref (ad (52))), (1, .int x1), (2, .int x2)] [] := by
          intro  hw
          have hw := hJ_7  hw
          refine g_iload_n C 2 2 d_MD_top_44 rfl rfl ?_
          refine g_if_ge (tgt := 59) C d_MD_top_45 (by decide) (fun hc_12 => ?_) (fun hc_12 => ?_)
          · have hw := hw.1 hc_12
            refine g_aload_n C 0 0 d_MD_top_59 rfl rfl ?_
            refine g_iload_n C 1 1 d_MD_top_60 rfl rfl ?_
            refine g_bipush (v := (nI 8)) C d_MD_top_61 (by decide) ?_
            refine g_iload_n C 2 2 d_MD_top_63 rfl rfl ?_
            refine g_imul C d_MD_top_64 ?_
            refine g_bipush (v := (nI 8)) C d_MD_top_65 (by decide) ?_
            refine g_iload_n C 2 2 d_MD_top_67 rfl rfl ?_
            refine g_imul C d_MD_top_68 ?_
            refine g_bipush (v := (nI 8)) C d_MD_top_69 (by decide) ?_
            refine g_iadd C d_MD_top_71 ?_
            refine g_callVi C 52 rfl [.int x1, .int ((nI 8) * x2), .int (((nI 8) * x2) + (nI 8))] [] (c_MD_topOf  hw) (em_cwV C 3 mw_474 mw_475 mw_44 mw_71 mw_476 rfl rfl (by decide +kernel) (by decide)) em_nc_MD em_sh_MD rfl rfl rfl (Nat.le_of_ble_eq_true rfl) d_MD_top_72 (by decide) (fun r_14 M_13 hw => ?_)
            obtain ⟨rfl, hw⟩ := hw
            exact g_iret C hQ rfl d_MD_top_75 hw
          · have hw := hw.2 hc_12
            refine g_aload_n C 0 0 d_MD_top_48 rfl rfl ?_
            refine g_iload_n C 1 1 d_MD_top_49 rfl rfl ?_
            refine g_iconst (v := (nI 0)) C d_MD_top_50 (by decide) ?_
            refine g_bipush (v := (nI 120)) C d_MD_top_51 (by decide) ?_
            refine g_callVi C 52 rfl [.int x1, .int (nI 0), .int (nI 120)] [] (c_MD_topOf  hw) (em_cwV C 3 mw_474 mw_475 mw_44 mw_71 mw_476 rfl rfl (by decide +kernel) (by decide)) em_nc_MD em_sh_MD rfl rfl rfl (Nat.le_of_ble_eq_true rfl) d_MD_top_53 (by decide) (fun r_16 M_15 hw => ?_)
            obtain ⟨rfl, hw⟩ := hw
            refine g_goto (tgt := 75) C d_MD_top_56 (by decide) ?_
            exact g_iret C hQ rfl d_MD_top_75 hw
        refine g_if_lt (tgt := 44) C d_MD_top_27 (by decide) (fun hc_17 => ?_) (fun hc_17 => ?_)
        · have hw := hw.1 hc_17
          refine g_sub [0, 1, 2] rfl ?_
          exact j_7  hw
        · have hw := hw.2 hc_17
          refine g_bipush (v := (nI 8)) C d_MD_top_30 (by decide) ?_
          refine g_iload_n C 2 2 d_MD_top_32 rfl rfl ?_
          refine g_imul C d_MD_top_33 ?_
          refine g_aload_n C 0 0 d_MD_top_34 rfl rfl ?_
          refine g_iload_n C 1 1 d_MD_top_35 rfl rfl ?_
          refine g_callVi C 52 rfl [.int x1] [.int ((nI 8) * x2)] (c_MD_size  hw) (em_cwV C 1 mw_459 mw_460 mw_43 mw_71 mw_461 rfl rfl (by decide +kernel) (by decide)) em_nc_MD em_sh_MD rfl rfl rfl (Nat.le_of_ble_eq_true rfl) d_MD_top_36 (by decide) (fun r_19 M_18 hw => ?_)
          obtain ⟨rfl, hw⟩ := hw
          refine g_icmp_lt (tgt := 44) C d_MD_top_39 (by decide) (fun hc_20 => ?_) (fun hc_20 => ?_)
          · have hw := hw.1 hc_20
            refine g_sub [0, 1, 2] rfl ?_
            exact j_7  hw
          · have hw := hw.2 hc_20
            refine g_iconst (v := (-1 : Int32)) C d_MD_top_42 (by decide) ?_
            exact g_iret C hQ rfl d_MD_top_43 hw
theorem c_MD_top {l : Launch} {D : va_G} {b0 : Nat} {cT : Nat → ClassId} {ad : Nat → Nat} {post : Int32 → em_M → Prop} {x1 : Int32} {x2 : Int32} {M : em_M}  (hw : wp_MD_top post x1 x2 M) : Met l y_MD_top (.code y_MD_top b_MD_top 3 (some .int) :: wAll) rm_MD_top (va_Pc [.ref (ad (52)), .int x1, .int x2] (em_U D b0 cT ad (SH ad) NC M)) (va_Qi post (em_U D b0 cT ad (SH ad) NC) (em_A b0)) 0 0 (em_A b0) :=
  em_met (by decide) rfl (Nat.le_of_ble_eq_true rfl) (fun X C _ _ hQ => v_MD_top  C hQ hw)
set_option maxHeartbeats 4000000 in
set_option maxRecDepth 100000 in
theorem v_MD_ask {X : em_X} {D : va_G} {b0 : Nat} {cT : Nat → ClassId} {ad : Nat → Nat} {post : Int32 → em_M → Prop} {x1 : Int32} {x2 : Int32} {x3 : Int32} {M : em_M}  (C : em_Cx X D b0 cT R_MD b_MD_ask (some .int) 5 rm_MD_ask) (hQ : xQ X = MQ (xB X) (va_Qi post (em_U D b0 cT ad (SH ad) NC) (em_A b0)) (xA X) (xS X) 0 0 (em_A b0)) (hw : wp_MD_ask post x1 x2 x3 M) : em_G X D b0 cT ad 5 (SH ad) NC 0 0 M 0 [(0, .ref (ad (52))), (1, .int x1), (2, .int x2), (3, .int x3)] [] := by
  unfold wp_MD_ask at hw
  refine g_aload_n C 0 0 d_MD_ask_0 rfl rfl ?_
  refine g_iconst (v := (nI 0)) C d_MD_ask_1 (by decide) ?_
  refine g_puti C 52 0 rfl ty_MD tyok_MD nm_MD d_MD_ask_2 em_nc_MD em_sh_MD rfl (by decide) rfl in_MD mw_399 rfl rfl rfl rfl rfl ?_
  refine g_nameM (fun M_1 eM_1 => ?_)
  have hw := hw M_1 eM_1
  refine g_iload_n C 1 1 d_MD_ask_5 rfl rfl ?_
  refine g_iconst (v := (nI 0)) C d_MD_ask_6 (by decide) ?_
  refine g_bipush (v := (nI 11)) C d_MD_ask_7 (by decide) ?_
  refine g_callSi C [.int x1, .int (nI 0), .int (nI 11)] [] (c_MD_in  hw) (em_cwS C 3 mw_453 mw_454 mw_71 mw_455 rfl rfl (by decide +kernel) (by decide)) rfl rfl (Nat.le_of_ble_eq_true rfl) d_MD_ask_9 (by decide) (fun r_3 M_2 hw => ?_)
  obtain ⟨rfl, hw⟩ := hw
  refine g_if_eq (tgt := 34) C d_MD_ask_12 (by decide) (fun hc_4 => ?_) (fun hc_4 => ?_)
  · have hw := hw.1 hc_4
    refine g_iconst (v := (-1 : Int32)) C d_MD_ask_34 (by decide) ?_
    exact g_iret C hQ rfl d_MD_ask_35 hw
  · have hw := hw.2 hc_4
    refine g_iload_n C 2 2 d_MD_ask_15 rfl rfl ?_
    refine g_iconst (v := (nI 0)) C d_MD_ask_16 (by decide) ?_
    refine g_iconst (v := (nI 3)) C d_MD_ask_17 (by decide) ?_
    refine g_callSi C [.int x2, .int (nI 0), .int (nI 3)] [] (c_MD_in  hw) (em_cwS C 3 mw_453 mw_454 mw_71 mw_455 rfl rfl (by decide +kernel) (by decide)) rfl rfl (Nat.le_of_ble_eq_true rfl) d_MD_ask_18 (by decide) (fun r_6 M_5 hw => ?_)
    obtain ⟨rfl, hw⟩ := hw
    refine g_if_eq (tgt := 34) C d_MD_ask_21 (by decide) (fun hc_7 => ?_) (fun hc_7 => ?_)
    · have hw := hw.1 hc_7
      refine g_iconst (v := (-1 : Int32)) C d_MD_ask_34 (by decide) ?_
      exact g_iret C hQ rfl d_MD_ask_35 hw
    · have hw := hw.2 hc_7
      refine g_iload_n C 3 3 d_MD_ask_24 rfl rfl ?_
      refine g_iconst (v := (nI 1)) C d_MD_ask_25 (by decide) ?_
      refine g_bipush (v := (nI 9)) C d_MD_ask_26 (by decide) ?_
      refine g_callSi C [.int x3, .int (nI 1), .int (nI 9)] [] (c_MD_in  hw) (em_cwS C 3 mw_453 mw_454 mw_71 mw_455 rfl rfl (by decide +kernel) (by decide)) rfl rfl (Nat.le_of_ble_eq_true rfl) d_MD_ask_28 (by decide) (fun r_9 M_8 hw => ?_)
      obtain ⟨rfl, hw⟩ := hw
      refine g_if_ne (tgt := 36) C d_MD_ask_31 (by decide) (fun hc_10 => ?_) (fun hc_10 => ?_)
      · have hw := hw.1 hc_10
        refine g_bipush (v := (nI 10)) C d_MD_ask_36 (by decide) ?_
        refine g_aload_n C 0 0 d_MD_ask_38 rfl rfl ?_
        refine g_getr C 52 4 rfl d_MD_ask_39 em_nc_MD em_sh_MD rfl (by decide) rfl in_MD mw_403 rfl ?_
        refine g_iload_n C 1 1 d_MD_ask_42 rfl rfl ?_
        obtain ⟨hb_11, hw⟩ := hw
        refine g_iald C 56 rfl d_MD_ask_43 em_nc_mWeight em_sh_mWeight rfl hb_11 ?_
        refine g_imul C d_MD_ask_44 ?_
        refine g_aload_n C 0 0 d_MD_ask_45 rfl rfl ?_
        refine g_getr C 52 3 rfl d_MD_ask_46 em_nc_MD em_sh_MD rfl (by decide) rfl in_MD mw_402 rfl ?_
        refine g_iload_n C 1 1 d_MD_ask_49 rfl rfl ?_
        refine g_iald C 55 rfl d_MD_ask_50 em_nc_mHow em_sh_mHow rfl hb_11 ?_
        refine g_iadd C d_MD_ask_51 ?_
        refine g_topi (fun x4_12 ex4_12 => ?_)
        have hw := hw x4_12 ex4_12
        refine g_istore (lv' := [(4, .int x4_12), (0, .ref (ad (52))), (1, .int x1), (2, .int x2), (3, .int x3)]) C d_MD_ask_52 (by decide) rfl ?_
        refine g_aload_n C 1 0 d_MD_ask_54 rfl rfl ?_
        refine g_getr C 52 3 rfl d_MD_ask_55 em_nc_MD em_sh_MD rfl (by decide) rfl in_MD mw_402 rfl ?_
        refine g_iload_n C 2 1 d_MD_ask_58 rfl rfl ?_
        refine g_iload_n C 3 2 d_MD_ask_59 rfl rfl ?_
        refine g_iast C 55 rfl d_MD_ask_60 em_nc_mHow em_sh_mHow rfl hb_11 ?_
        refine g_nameM (fun M_13 eM_13 => ?_)
        have hw := hw M_13 eM_13
        refine g_aload_n C 1 0 d_MD_ask_61 rfl rfl ?_
        refine g_getr C 52 4 rfl d_MD_ask_62 em_nc_MD em_sh_MD rfl (by decide) rfl in_MD mw_403 rfl ?_
        refine g_iload_n C 2 1 d_MD_ask_65 rfl rfl ?_
        refine g_iload_n C 4 3 d_MD_ask_66 rfl rfl ?_
        refine g_iast C 56 rfl d_MD_ask_67 em_nc_mWeight em_sh_mWeight rfl hb_11 ?_
        refine g_nameM (fun M_14 eM_14 => ?_)
        have hw := hw M_14 eM_14
        refine g_iload C 0 d_MD_ask_68 rfl ?_
        exact g_iret C hQ rfl d_MD_ask_70 hw
      · have hw := hw.2 hc_10
        refine g_iconst (v := (-1 : Int32)) C d_MD_ask_34 (by decide) ?_
        exact g_iret C hQ rfl d_MD_ask_35 hw
theorem c_MD_ask {l : Launch} {D : va_G} {b0 : Nat} {cT : Nat → ClassId} {ad : Nat → Nat} {post : Int32 → em_M → Prop} {x1 : Int32} {x2 : Int32} {x3 : Int32} {M : em_M}  (hw : wp_MD_ask post x1 x2 x3 M) : Met l y_MD_ask (.code y_MD_ask b_MD_ask 5 (some .int) :: wAll) rm_MD_ask (va_Pc [.ref (ad (52)), .int x1, .int x2, .int x3] (em_U D b0 cT ad (SH ad) NC M)) (va_Qi post (em_U D b0 cT ad (SH ad) NC) (em_A b0)) 0 0 (em_A b0) :=
  em_met (by decide) rfl (Nat.le_of_ble_eq_true rfl) (fun X C _ _ hQ => v_MD_ask  C hQ hw)
set_option maxHeartbeats 4000000 in
set_option maxRecDepth 100000 in
theorem v_MD_isAsked {X : em_X} {D : va_G} {b0 : Nat} {cT : Nat → ClassId} {ad : Nat → Nat} {post : Int32 → Prop} {x1 : Int32} {M : em_M}  (C : em_Cx X D b0 cT R_MD b_MD_isAsked (some .boolean) 2 rm_MD_isAsked) (hQ : xQ X = MQ (xB X) (va_Qi (fun r M1 => M = M1 ∧ post r) (em_U D b0 cT ad (SH ad) NC) (em_A b0)) (xA X) (xS X) 0 0 (em_A b0)) (hw : wp_MD_isAsked post x1 M) : em_G X D b0 cT ad 2 (SH ad) NC 0 0 M 0 [(0, .ref (ad (52))), (1, .int x1)] [] := by
  unfold wp_MD_isAsked at hw
  refine g_aload_n C 0 0 d_MD_isAsked_0 rfl rfl ?_
  refine g_getr C 52 3 rfl d_MD_isAsked_1 em_nc_MD em_sh_MD rfl (by decide) rfl in_MD mw_402 rfl ?_
  refine g_iload_n C 1 1 d_MD_isAsked_4 rfl rfl ?_
  obtain ⟨hb_1, hw⟩ := hw
  refine g_iald C 55 rfl d_MD_isAsked_5 em_nc_mHow em_sh_mHow rfl hb_1 ?_
  refine g_iconst (v := (nI 1)) C d_MD_isAsked_6 (by decide) ?_
  refine g_icmp_eq (tgt := 20) C d_MD_isAsked_7 (by decide) (fun hc_2 => ?_) (fun hc_2 => ?_)
  · have hw := hw.1 hc_2
    refine g_iconst (v := (nI 1)) C d_MD_isAsked_20 (by decide) ?_
    refine g_goto (tgt := 25) C d_MD_isAsked_21 (by decide) ?_
    exact g_zret C hQ rfl rfl d_MD_isAsked_25 ⟨rfl, hw⟩
  · have hw := hw.2 hc_2
    refine g_aload_n C 0 0 d_MD_isAsked_10 rfl rfl ?_
    refine g_getr C 52 3 rfl d_MD_isAsked_11 em_nc_MD em_sh_MD rfl (by decide) rfl in_MD mw_402 rfl ?_
    refine g_iload_n C 1 1 d_MD_isAsked_14 rfl rfl ?_
    refine g_iald C 55 rfl d_MD_isAsked_15 em_nc_mHow em_sh_mHow rfl hb_1 ?_
    refine g_iconst (v := (nI 2)) C d_MD_isAsked_16 (by decide) ?_
    refine g_icmp_ne (tgt := 24) C d_MD_isAsked_17 (by decide) (fun hc_3 => ?_) (fun hc_3 => ?_)
    · have hw := hw.1 hc_3
      refine g_iconst (v := (nI 0)) C d_MD_isAsked_24 (by decide) ?_
      exact g_zret C hQ rfl rfl d_MD_isAsked_25 ⟨rfl, hw⟩
    · have hw := hw.2 hc_3
      refine g_iconst (v := (nI 1)) C d_MD_isAsked_20 (by decide) ?_
      refine g_goto (tgt := 25) C d_MD_isAsked_21 (by decide) ?_
      exact g_zret C hQ rfl rfl d_MD_isAsked_25 ⟨rfl, hw⟩
theorem c_MD_isAsked {l : Launch} {D : va_G} {b0 : Nat} {cT : Nat → ClassId} {ad : Nat → Nat} {post : Int32 → Prop} {x1 : Int32} {M : em_M}  (hw : wp_MD_isAsked post x1 M) : Met l y_MD_isAsked (.code y_MD_isAsked b_MD_isAsked 2 (some .boolean) :: wAll) rm_MD_isAsked (va_Pc [.ref (ad (52)), .int x1] (em_U D b0 cT ad (SH ad) NC M)) (va_Qi (fun r M1 => M = M1 ∧ post r) (em_U D b0 cT ad (SH ad) NC) (em_A b0)) 0 0 (em_A b0) :=
  em_met (by decide) rfl (Nat.le_of_ble_eq_true rfl) (fun X C _ _ hQ => v_MD_isAsked  C hQ hw)
set_option maxHeartbeats 4000000 in
set_option maxRecDepth 100000 in
theorem v_MD_wanted {X : em_X} {D : va_G} {b0 : Nat} {cT : Nat → ClassId} {ad : Nat → Nat} {post : Int32 → em_M → Prop} {x1 : Int32} {M : em_M}  (C : em_Cx X D b0 cT R_MD b_MD_wanted (some .int) 3 rm_MD_wanted) (hQ : xQ X = MQ (xB X) (va_Qi post (em_U D b0 cT ad (SH ad) NC) (em_A b0)) (xA X) (xS X) 0 0 (em_A b0)) (hw : wp_MD_wanted post x1 M) : em_G X D b0 cT ad 3 (SH ad) NC 0 0 M 0 [(0, .ref (ad (52))), (1, .int x1)] [] := by
  unfold wp_MD_wanted at hw
  refine g_aload_n C 0 0 d_MD_wanted_0 rfl rfl ?_
  refine g_iconst (v := (nI 0)) C d_MD_wanted_1 (by decide) ?_
  refine g_puti C 52 0 rfl ty_MD tyok_MD nm_MD d_MD_wanted_2 em_nc_MD em_sh_MD rfl (by decide) rfl in_MD mw_399 rfl rfl rfl rfl rfl ?_
  refine g_nameM (fun M_1 eM_1 => ?_)
  have hw := hw M_1 eM_1
  refine g_iload_n C 1 1 d_MD_wanted_5 rfl rfl ?_
  refine g_iconst (v := (nI 1)) C d_MD_wanted_6 (by decide) ?_
  refine g_bipush (v := (nI 20)) C d_MD_wanted_7 (by decide) ?_
  refine g_callSi C [.int x1, .int (nI 1), .int (nI 20)] [] (c_MD_in  hw) (em_cwS C 3 mw_453 mw_454 mw_71 mw_455 rfl rfl (by decide +kernel) (by decide)) rfl rfl (Nat.le_of_ble_eq_true rfl) d_MD_wanted_9 (by decide) (fun r_3 M_2 hw => ?_)
  obtain ⟨rfl, hw⟩ := hw
  refine g_if_ne (tgt := 17) C d_MD_wanted_12 (by decide) (fun hc_4 => ?_) (fun hc_4 => ?_)
  · have hw := hw.1 hc_4
    refine g_aload_n C 0 0 d_MD_wanted_17 rfl rfl ?_
    refine g_geti C 52 5 rfl d_MD_wanted_18 em_nc_MD em_sh_MD rfl (by decide) rfl in_MD mw_404 rfl ?_
    refine g_topi (fun x2_5 ex2_5 => ?_)
    have hw := hw x2_5 ex2_5
    refine g_istore_n (lv' := [(2, .int x2_5), (0, .ref (ad (52))), (1, .int x1)]) C 2 d_MD_wanted_21 rfl (by decide) rfl ?_
    refine g_aload_n C 1 0 d_MD_wanted_22 rfl rfl ?_
    refine g_iload_n C 2 1 d_MD_wanted_23 rfl rfl ?_
    refine g_puti C 52 5 rfl ty_MD tyok_MD nm_MD d_MD_wanted_24 em_nc_MD em_sh_MD rfl (by decide) rfl in_MD mw_404 rfl rfl rfl rfl rfl ?_
    refine g_nameM (fun M_6 eM_6 => ?_)
    have hw := hw M_6 eM_6
    refine g_iload_n C 0 2 d_MD_wanted_27 rfl rfl ?_
    exact g_iret C hQ rfl d_MD_wanted_28 hw
  · have hw := hw.2 hc_4
    refine g_iconst (v := (-1 : Int32)) C d_MD_wanted_15 (by decide) ?_
    exact g_iret C hQ rfl d_MD_wanted_16 hw
theorem c_MD_wanted {l : Launch} {D : va_G} {b0 : Nat} {cT : Nat → ClassId} {ad : Nat → Nat} {post : Int32 → em_M → Prop} {x1 : Int32} {M : em_M}  (hw : wp_MD_wanted post x1 M) : Met l y_MD_wanted (.code y_MD_wanted b_MD_wanted 3 (some .int) :: wAll) rm_MD_wanted (va_Pc [.ref (ad (52)), .int x1] (em_U D b0 cT ad (SH ad) NC M)) (va_Qi post (em_U D b0 cT ad (SH ad) NC) (em_A b0)) 0 0 (em_A b0) :=
  em_met (by decide) rfl (Nat.le_of_ble_eq_true rfl) (fun X C _ _ hQ => v_MD_wanted  C hQ hw)
set_option maxHeartbeats 4000000 in
set_option maxRecDepth 100000 in
theorem v_MD_place {X : em_X} {D : va_G} {b0 : Nat} {cT : Nat → ClassId} {ad : Nat → Nat} {post : Int32 → em_M → Prop} {x1 : Int32} {x2 : Int32} {M : em_M}  (C : em_Cx X D b0 cT R_MD b_MD_place (some .int) 4 rm_MD_place) (hQ : xQ X = MQ (xB X) (va_Qi post (em_U D b0 cT ad (SH ad) NC) (em_A b0)) (xA X) (xS X) 0 0 (em_A b0)) (hw : wp_MD_place post x1 x2 M) : em_G X D b0 cT ad 4 (SH ad) NC 0 0 M 0 [(0, .ref (ad (52))), (1, .int x1), (2, .int x2)] [] := by
  unfold wp_MD_place at hw
  refine g_aload_n C 0 0 d_MD_place_0 rfl rfl ?_
  refine g_iconst (v := (nI 0)) C d_MD_place_1 (by decide) ?_
  refine g_puti C 52 0 rfl ty_MD tyok_MD nm_MD d_MD_place_2 em_nc_MD em_sh_MD rfl (by decide) rfl in_MD mw_399 rfl rfl rfl rfl rfl ?_
  refine g_nameM (fun M_1 eM_1 => ?_)
  have hw := hw M_1 eM_1
  refine g_iload_n C 1 1 d_MD_place_5 rfl rfl ?_
  refine g_iconst (v := (-1 : Int32)) C d_MD_place_6 (by decide) ?_
  obtain ⟨J_2, hJ_2, hw⟩ := em_jn0 hw
  have j_2 : J_2 → em_G X D b0 cT ad 4 (SH ad) NC 0 0 M_1 34 [(0, .ref (ad (52))), (1, .int x1), (2, .int x2)] [] := by
    intro  hw
    have hw := hJ_2  hw
    refine g_aload_n C 0 0 d_MD_place_34 rfl rfl ?_
    refine g_geti C 52 6 rfl d_MD_place_35 em_nc_MD em_sh_MD rfl (by decide) rfl in_MD mw_405 rfl ?_
    refine g_if_ge (tgt := 45) C d_MD_place_38 (by decide) (fun hc_10 => ?_) (fun hc_10 => ?_)
    · have hw := hw.1 hc_10
      refine g_iconst (v := (nI 1)) C d_MD_place_45 (by decide) ?_
      refine g_istore_n (lv' := [(3, .int (nI 1)), (0, .ref (ad (52))), (1, .int x1), (2, .int x2)]) C 3 d_MD_place_46 rfl (by decide) rfl ?_
      refine g_aload_n C 1 0 d_MD_place_47 rfl rfl ?_
      refine g_iload_n C 2 1 d_MD_place_48 rfl rfl ?_
      refine g_puti C 52 6 rfl ty_MD tyok_MD nm_MD d_MD_place_49 em_nc_MD em_sh_MD rfl (by decide) rfl in_MD mw_405 rfl rfl rfl rfl rfl ?_
      refine g_nameM (fun M_11 eM_11 => ?_)
      have hw := hw M_11 eM_11
      refine g_aload_n C 1 0 d_MD_place_52 rfl rfl ?_
      refine g_iload_n C 3 2 d_MD_place_53 rfl rfl ?_
      refine g_puti C 52 7 rfl ty_MD tyok_MD nm_MD d_MD_place_54 em_nc_MD em_sh_MD rfl (by decide) rfl in_MD mw_406 rfl rfl rfl rfl rfl ?_
      refine g_nameM (fun M_12 eM_12 => ?_)
      have hw := hw M_12 eM_12
      refine g_iload_n C 0 3 d_MD_place_57 rfl rfl ?_
      exact g_iret C hQ rfl d_MD_place_58 hw
    · have hw := hw.2 hc_10
      refine g_iconst (v := (nI 0)) C d_MD_place_41 (by decide) ?_
      refine g_goto (tgt := 46) C d_MD_place_42 (by decide) ?_
      refine g_istore_n (lv' := [(3, .int (nI 0)), (0, .ref (ad (52))), (1, .int x1), (2, .int x2)]) C 3 d_MD_place_46 rfl (by decide) rfl ?_
      refine g_aload_n C 1 0 d_MD_place_47 rfl rfl ?_
      refine g_iload_n C 2 1 d_MD_place_48 rfl rfl ?_
      refine g_puti C 52 6 rfl ty_MD tyok_MD nm_MD d_MD_place_49 em_nc_MD em_sh_MD rfl (by decide) rfl in_MD mw_405 rfl rfl rfl rfl rfl ?_
      refine g_nameM (fun M_13 eM_13 => ?_)
      have hw := hw M_13 eM_13
      refine g_aload_n C 1 0 d_MD_place_52 rfl rfl ?_
      refine g_iload_n C 3 2 d_MD_place_53 rfl rfl ?_
      refine g_puti C 52 7 rfl ty_MD tyok_MD nm_MD d_MD_place_54 em_nc_MD em_sh_MD rfl (by decide) rfl in_MD mw_406 rfl rfl rfl rfl rfl ?_
      refine g_nameM (fun M_14 eM_14 => ?_)
      have hw := hw M_14 eM_14
      refine g_iload_n C 0 3 d_MD_place_57 rfl rfl ?_
      exact g_iret C hQ rfl d_MD_place_58 hw
  refine g_icmp_eq (tgt := 34) C d_MD_place_7 (by decide) (fun hc_15 => ?_) (fun hc_15 => ?_)
  · have hw := hw.1 hc_15
    refine g_sub [0, 1, 2] rfl ?_
    exact j_2  hw
  · have hw := hw.2 hc_15
    refine g_iload_n C 1 1 d_MD_place_10 rfl rfl ?_
    refine g_iconst (v := (nI 0)) C d_MD_place_11 (by decide) ?_
    refine g_sipush (v := (nI 10800)) C d_MD_place_12 (by decide) ?_
    refine g_callSi C [.int x1, .int (nI 0), .int (nI 10800)] [] (c_MD_in  hw) (em_cwS C 3 mw_453 mw_454 mw_71 mw_455 rfl rfl (by decide +kernel) (by decide)) rfl rfl (Nat.le_of_ble_eq_true rfl) d_MD_place_15 (by decide) (fun r_17 M_16 hw => ?_)
    obtain ⟨rfl, hw⟩ := hw
    refine g_if_eq (tgt := 32) C d_MD_place_18 (by decide) (fun hc_18 => ?_) (fun hc_18 => ?_)
    · have hw := hw.1 hc_18
      refine g_iconst (v := (-1 : Int32)) C d_MD_place_32 (by decide) ?_
      exact g_iret C hQ rfl d_MD_place_33 hw
    · have hw := hw.2 hc_18
      refine g_iload_n C 2 2 d_MD_place_21 rfl rfl ?_
      refine g_iconst (v := (nI 0)) C d_MD_place_22 (by decide) ?_
      refine g_sipush (v := (nI 511)) C d_MD_place_23 (by decide) ?_
      refine g_callSi C [.int x2, .int (nI 0), .int (nI 511)] [] (c_MD_in  hw) (em_cwS C 3 mw_453 mw_454 mw_71 mw_455 rfl rfl (by decide +kernel) (by decide)) rfl rfl (Nat.le_of_ble_eq_true rfl) d_MD_place_26 (by decide) (fun r_20 M_19 hw => ?_)
      obtain ⟨rfl, hw⟩ := hw
      refine g_if_ne (tgt := 34) C d_MD_place_29 (by decide) (fun hc_21 => ?_) (fun hc_21 => ?_)
      · have hw := hw.1 hc_21
        refine g_sub [0, 1, 2] rfl ?_
        exact j_2  hw
      · have hw := hw.2 hc_21
        refine g_iconst (v := (-1 : Int32)) C d_MD_place_32 (by decide) ?_
        exact g_iret C hQ rfl d_MD_place_33 hw
theorem c_MD_place {l : Launch} {D : va_G} {b0 : Nat} {cT : Nat → ClassId} {ad : Nat → Nat} {post : Int32 → em_M → Prop} {x1 : Int32} {x2 : Int32} {M : em_M}  (hw : wp_MD_place post x1 x2 M) : Met l y_MD_place (.code y_MD_place b_MD_place 4 (some .int) :: wAll) rm_MD_place (va_Pc [.ref (ad (52)), .int x1, .int x2] (em_U D b0 cT ad (SH ad) NC M)) (va_Qi post (em_U D b0 cT ad (SH ad) NC) (em_A b0)) 0 0 (em_A b0) :=
  em_met (by decide) rfl (Nat.le_of_ble_eq_true rfl) (fun X C _ _ hQ => v_MD_place  C hQ hw)
set_option maxHeartbeats 4000000 in
set_option maxRecDepth 100000 in
theorem v_MD_isFit {X : em_X} {D : va_G} {b0 : Nat} {cT : Nat → ClassId} {ad : Nat → Nat} {post : Int32 → Prop} {x1 : Int32} {M : em_M}  (C : em_Cx X D b0 cT R_MD b_MD_isFit (some .boolean) 5 rm_MD_isFit) (hQ : xQ X = MQ (xB X) (va_Qi (fun r M1 => M = M1 ∧ post r) (em_U D b0 cT ad (SH ad) NC) (em_A b0)) (xA X) (xS X) 0 0 (em_A b0)) (hw : wp_MD_isFit post x1 M) : em_G X D b0 cT ad 5 (SH ad) NC 0 0 M 0 [(0, .ref (ad (52))), (1, .int x1)] [] := by
  unfold wp_MD_isFit at hw
  refine g_iconst (v := (nI 0)) C d_MD_isFit_0 (by decide) ?_
  refine g_istore_n (lv' := [(2, .int (nI 0)), (0, .ref (ad (52))), (1, .int x1)]) C 2 d_MD_isFit_1 rfl (by decide) rfl ?_
  refine g_iconst (v := (nI 0)) C d_MD_isFit_2 (by decide) ?_
  refine g_istore_n (lv' := [(3, .int (nI 0)), (2, .int (nI 0)), (0, .ref (ad (52))), (1, .int x1)]) C 3 d_MD_isFit_3 rfl (by decide) rfl ?_
  obtain ⟨I_1, mu_1, h0, hw⟩ := hw
  refine g_sub [2, 3, 1, 0] rfl ?_
  have lp_1 : ∀ (n_1 : Nat) (x2_2 : Int32) (x3_3 : Int32) , mu_1 x2_2 x3_3 < n_1 → I_1 x2_2 x3_3 → em_G X D b0 cT ad 5 (SH ad) NC 0 0 M 4 [(0, .ref (ad (52))), (1, .int x1), (2, .int x2_2), (3, .int x3_3)] [] := by
    intro n_1
    induction n_1 with
    | zero => intro x2_2 x3_3 h; exact absurd h (Nat.not_lt_zero _)
    | succ n_1 ih_1 =>
      intro x2_2 x3_3 hn_1 hi
      have hw := hw x2_2 x3_3 hi
      refine g_iload_n C 3 3 d_MD_isFit_4 rfl rfl ?_
      refine g_bipush (v := (nI 12)) C d_MD_isFit_5 (by decide) ?_
      refine g_icmp_ge (tgt := 87) C d_MD_isFit_7 (by decide) (fun hc_4 => ?_) (fun hc_4 => ?_)
      · have hw := hw.1 hc_4
        refine g_iload_n C 2 2 d_MD_isFit_87 rfl rfl ?_
        obtain ⟨hz_5, hw⟩ := hw
        exact g_zret C hQ rfl (em_bn hz_5) d_MD_isFit_88 ⟨rfl, hw⟩
      · have hw := hw.2 hc_4
        refine g_aload_n C 0 0 d_MD_isFit_10 rfl rfl ?_
        refine g_iload_n C 3 3 d_MD_isFit_11 rfl rfl ?_
        refine g_iload_n C 1 1 d_MD_isFit_12 rfl rfl ?_
        refine g_callVi C 52 rfl [.int x3_3, .int x1] [] (c_MD_at  hw) (em_cwV C 2 mw_456 mw_457 mw_42 mw_71 mw_458 rfl rfl (by decide +kernel) (by decide)) em_nc_MD em_sh_MD rfl rfl rfl (Nat.le_of_ble_eq_true rfl) d_MD_isFit_13 (by decide) (fun r_7 M_6 hw => ?_)
        obtain ⟨rfl, hw⟩ := hw
        obtain ⟨J_8, hJ_8, hw⟩ := em_jn1 hw
        have j_8 : ∀ (z_10 : Int32) , J_8 z_10 → em_G X D b0 cT ad 5 (SH ad) NC 0 0 M 24 [(0, .ref (ad (52))), (1, .int x1), (2, .int x2_2), (3, .int x3_3)] [.int z_10] := by
          intro z_10 hw
          have hw := hJ_8 z_10 hw
          refine g_istore (lv' := [(4, .int z_10), (0, .ref (ad (52))), (1, .int x1), (2, .int x2_2), (3, .int x3_3)]) C d_MD_isFit_24 (by decide) rfl ?_
          refine g_iload C 0 d_MD_isFit_26 rfl ?_
          obtain ⟨J_11, hJ_11, hw⟩ := em_jn0 hw
          have j_11 : J_11 → em_G X D b0 cT ad 5 (SH ad) NC 0 0 M 41 [(0, .ref (ad (52))), (1, .int x1), (2, .int x2_2), (3, .int x3_3), (4, .int z_10)] [] := by
            intro  hw
            have hw := hJ_11  hw
            refine g_iload C 4 d_MD_isFit_41 rfl ?_
            obtain ⟨J_15, hJ_15, hw⟩ := em_jn0 hw
            have j_15 : J_15 → em_G X D b0 cT ad 5 (SH ad) NC 0 0 M 58 [(0, .ref (ad (52))), (1, .int x1), (2, .int x2_2), (3, .int x3_3), (4, .int z_10)] [] := by
              intro  hw
              have hw := hJ_15  hw
              refine g_iload_n C 2 2 d_MD_isFit_58 rfl rfl ?_
              obtain ⟨J_19, hJ_19, hw⟩ := em_jn1 hw
              have j_19 : ∀ (z_25 : Int32) , J_19 z_25 → em_G X D b0 cT ad 5 (SH ad) NC 0 0 M 80 [(0, .ref (ad (52))), (1, .int x1), (2, .int x2_2), (3, .int x3_3), (4, .int z_10)] [.int z_25] := by
                intro z_25 hw
                have hw := hJ_19 z_25 hw
                refine g_istore_n (lv' := [(2, .int z_25), (0, .ref (ad (52))), (1, .int x1), (3, .int x3_3), (4, .int z_10)]) C 2 d_MD_isFit_80 rfl (by decide) rfl ?_
                obtain ⟨x3_26, ex3_26⟩ : ∃ y : Int32, y = x3_3 + nI 1 := ⟨_, rfl⟩
                have hw := hw x3_26 ex3_26
                refine g_iinc (v := x3_26) (lv' := [(3, .int x3_26), (2, .int z_25), (0, .ref (ad (52))), (1, .int x1), (4, .int z_10)]) C 3 d_MD_isFit_81 rfl (by rw [ex3_26]; first | rfl | (congr 1)) (by decide) rfl ?_
                refine g_goto (tgt := 4) C d_MD_isFit_84 (by decide) ?_
                refine g_sub [2, 3, 1, 0] rfl ?_
                exact ih_1 z_25 x3_26 (Nat.lt_of_lt_of_le hw.2 (Nat.le_of_lt_succ hn_1)) hw.1
              obtain ⟨J_27, hJ_27, hw⟩ := em_jn0 hw
              have j_27 : J_27 → em_G X D b0 cT ad 5 (SH ad) NC 0 0 M 75 [(0, .ref (ad (52))), (1, .int x1), (2, .int x2_2), (3, .int x3_3), (4, .int z_10)] [] := by
                intro  hw
                have hw := hJ_27  hw
                refine g_iconst (v := (nI 1)) C d_MD_isFit_75 (by decide) ?_
                refine g_goto (tgt := 80) C d_MD_isFit_76 (by decide) ?_
                refine g_sub [0, 1, 2, 3, 4] rfl ?_
                exact j_19 (nI 1) hw
              refine g_if_ne (tgt := 75) C d_MD_isFit_59 (by decide) (fun hc_33 => ?_) (fun hc_33 => ?_)
              · have hw := hw.1 hc_33
                refine g_sub [0, 1, 2, 3, 4] rfl ?_
                exact j_27  hw
              · have hw := hw.2 hc_33
                refine g_iload C 4 d_MD_isFit_62 rfl ?_
                obtain ⟨J_34, hJ_34, hw⟩ := em_jn0 hw
                have j_34 : J_34 → em_G X D b0 cT ad 5 (SH ad) NC 0 0 M 79 [(0, .ref (ad (52))), (1, .int x1), (2, .int x2_2), (3, .int x3_3), (4, .int z_10)] [] := by
                  intro  hw
                  have hw := hJ_34  hw
                  refine g_iconst (v := (nI 0)) C d_MD_isFit_79 (by decide) ?_
                  refine g_sub [0, 1, 2, 3, 4] rfl ?_
                  exact j_19 (nI 0) hw
                refine g_if_eq (tgt := 79) C d_MD_isFit_64 (by decide) (fun hc_39 => ?_) (fun hc_39 => ?_)
                · have hw := hw.1 hc_39
                  refine g_sub [0, 1, 2, 3, 4] rfl ?_
                  exact j_34  hw
                · have hw := hw.2 hc_39
                  refine g_aload_n C 0 0 d_MD_isFit_67 rfl rfl ?_
                  refine g_iload_n C 3 3 d_MD_isFit_68 rfl rfl ?_
                  refine g_callVi C 52 rfl [.int x3_3] [] (c_MD_isAsked  hw) (em_cwV C 1 mw_496 mw_497 mw_46 mw_71 mw_498 rfl rfl (by decide +kernel) (by decide)) em_nc_MD em_sh_MD rfl rfl rfl (Nat.le_of_ble_eq_true rfl) d_MD_isFit_69 (by decide) (fun r_41 M_40 hw => ?_)
                  obtain ⟨rfl, hw⟩ := hw
                  refine g_if_eq (tgt := 79) C d_MD_isFit_72 (by decide) (fun hc_42 => ?_) (fun hc_42 => ?_)
                  · have hw := hw.1 hc_42
                    refine g_sub [0, 1, 2, 3, 4] rfl ?_
                    exact j_34  hw
                  · have hw := hw.2 hc_42
                    refine g_sub [0, 1, 2, 3, 4] rfl ?_
                    exact j_27  hw
            refine g_if_ne (tgt := 58) C d_MD_isFit_43 (by decide) (fun hc_43 => ?_) (fun hc_43 => ?_)
            · have hw := hw.1 hc_43
              refine g_sub [0, 1, 2, 3, 4] rfl ?_
              exact j_15  hw
            · have hw := hw.2 hc_43
              refine g_aload_n C 0 0 d_MD_isFit_46 rfl rfl ?_
              refine g_getr C 52 3 rfl d_MD_isFit_47 em_nc_MD em_sh_MD rfl (by decide) rfl in_MD mw_402 rfl ?_
              refine g_iload_n C 3 3 d_MD_isFit_50 rfl rfl ?_
              obtain ⟨hb_44, hw⟩ := hw
              refine g_iald C 55 rfl d_MD_isFit_51 em_nc_mHow em_sh_mHow rfl hb_44 ?_
              refine g_iconst (v := (nI 2)) C d_MD_isFit_52 (by decide) ?_
              refine g_icmp_ne (tgt := 58) C d_MD_isFit_53 (by decide) (fun hc_45 => ?_) (fun hc_45 => ?_)
              · have hw := hw.1 hc_45
                refine g_sub [0, 1, 2, 3, 4] rfl ?_
                exact j_15  hw
              · have hw := hw.2 hc_45
                refine g_iconst (v := (nI 0)) C d_MD_isFit_56 (by decide) ?_
                exact g_zret C hQ rfl rfl d_MD_isFit_57 ⟨rfl, hw⟩
          refine g_if_eq (tgt := 41) C d_MD_isFit_28 (by decide) (fun hc_46 => ?_) (fun hc_46 => ?_)
          · have hw := hw.1 hc_46
            refine g_sub [1, 2, 3, 4, 0] rfl ?_
            exact j_11  hw
          · have hw := hw.2 hc_46
            refine g_aload_n C 1 0 d_MD_isFit_31 rfl rfl ?_
            refine g_getr C 52 3 rfl d_MD_isFit_32 em_nc_MD em_sh_MD rfl (by decide) rfl in_MD mw_402 rfl ?_
            refine g_iload_n C 4 3 d_MD_isFit_35 rfl rfl ?_
            obtain ⟨hb_47, hw⟩ := hw
            refine g_iald C 55 rfl d_MD_isFit_36 em_nc_mHow em_sh_mHow rfl hb_47 ?_
            refine g_iconst (v := (nI 3)) C d_MD_isFit_37 (by decide) ?_
            refine g_icmp_eq (tgt := 56) C d_MD_isFit_38 (by decide) (fun hc_48 => ?_) (fun hc_48 => ?_)
            · have hw := hw.1 hc_48
              refine g_iconst (v := (nI 0)) C d_MD_isFit_56 (by decide) ?_
              exact g_zret C hQ rfl rfl d_MD_isFit_57 ⟨rfl, hw⟩
            · have hw := hw.2 hc_48
              refine g_sub [1, 2, 3, 4, 0] rfl ?_
              exact j_11  hw
        refine g_if_le (tgt := 23) C d_MD_isFit_16 (by decide) (fun hc_49 => ?_) (fun hc_49 => ?_)
        · have hw := hw.1 hc_49
          refine g_iconst (v := (nI 0)) C d_MD_isFit_23 (by decide) ?_
          refine g_sub [0, 1, 2, 3] rfl ?_
          exact j_8 (nI 0) hw
        · have hw := hw.2 hc_49
          refine g_iconst (v := (nI 1)) C d_MD_isFit_19 (by decide) ?_
          refine g_goto (tgt := 24) C d_MD_isFit_20 (by decide) ?_
          refine g_sub [0, 1, 2, 3] rfl ?_
          exact j_8 (nI 1) hw
  exact lp_1 _ (nI 0) (nI 0) (Nat.lt_succ_self _) h0
theorem c_MD_isFit {l : Launch} {D : va_G} {b0 : Nat} {cT : Nat → ClassId} {ad : Nat → Nat} {post : Int32 → Prop} {x1 : Int32} {M : em_M}  (hw : wp_MD_isFit post x1 M) : Met l y_MD_isFit (.code y_MD_isFit b_MD_isFit 5 (some .boolean) :: wAll) rm_MD_isFit (va_Pc [.ref (ad (52)), .int x1] (em_U D b0 cT ad (SH ad) NC M)) (va_Qi (fun r M1 => M = M1 ∧ post r) (em_U D b0 cT ad (SH ad) NC) (em_A b0)) 0 0 (em_A b0) :=
  em_met (by decide) rfl (Nat.le_of_ble_eq_true rfl) (fun X C _ _ hQ => v_MD_isFit  C hQ hw)
