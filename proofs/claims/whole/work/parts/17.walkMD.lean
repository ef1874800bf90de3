/-! THE WALKS, written by wip/gen -/
set_option maxHeartbeats 4000000 in
set_option maxRecDepth 100000 in
theorem v_MD_rank {X : em_X} {D : va_G} {b0 : Nat} {cT : Nat → ClassId} {ad : Nat → Nat} {post : Int32 → Prop} {x1 : Int32} {x2 : Int32} {M : em_M}  (C : em_Cx X D b0 cT R_MD b_MD_rank (some .int) 5 rm_MD_rank) (hQ : xQ X = MQ (xB X) (va_Qi (fun r M1 => M = M1 ∧ post r) (em_U D b0 cT ad (SH ad) NC) (em_A b0)) (xA X) (xS X) 0 0 (em_A b0)) (hw : wp_MD_rank post x1 x2 M) : em_G X D b0 cT ad 5 (SH ad) NC 0 0 M 0 [(0, .ref (ad (52))), (1, .int x1), (2, .int x2)] [] := by
  unfold wp_MD_rank at hw
  refine g_iconst (v := (nI 0)) C d_MD_rank_0 (by decide) ?_
  refine g_istore_n (lv' := [(3, .int (nI 0)), (0, .ref (ad (52))), (1, .int x1), (2, .int x2)]) C 3 d_MD_rank_1 rfl (by decide) rfl ?_
  refine g_iconst (v := (nI 0)) C d_MD_rank_2 (by decide) ?_
  refine g_istore (lv' := [(4, .int (nI 0)), (3, .int (nI 0)), (0, .ref (ad (52))), (1, .int x1), (2, .int x2)]) C d_MD_rank_3 (by decide) rfl ?_
  obtain ⟨I_1, mu_1, h0, hw⟩ := hw
  refine g_sub [2, 3, 4, 1, 0] rfl ?_
  have lp_1 : ∀ (n_1 : Nat) (x3_2 : Int32) (x4_3 : Int32) , mu_1 x3_2 x4_3 < n_1 → I_1 x3_2 x4_3 → em_G X D b0 cT ad 5 (SH ad) NC 0 0 M 5 [(0, .ref (ad (52))), (1, .int x1), (2, .int x2), (3, .int x3_2), (4, .int x4_3)] [] := by
    intro n_1
    induction n_1 with
    | zero => intro x3_2 x4_3 h; exact absurd h (Nat.not_lt_zero _)
    | succ n_1 ih_1 =>
      intro x3_2 x4_3 hn_1 hi
      have hw := hw x3_2 x4_3 hi
      refine g_iload C 4 d_MD_rank_5 rfl ?_
      refine g_iload_n C 2 2 d_MD_rank_7 rfl rfl ?_
      refine g_icmp_ge (tgt := 35) C d_MD_rank_8 (by decide) (fun hc_4 => ?_) (fun hc_4 => ?_)
      · have hw := hw.1 hc_4
        refine g_iload_n C 3 3 d_MD_rank_35 rfl rfl ?_
        exact g_iret C hQ rfl d_MD_rank_36 ⟨rfl, hw⟩
      · have hw := hw.2 hc_4
        refine g_aload_n C 0 0 d_MD_rank_11 rfl rfl ?_
        refine g_iload_n C 1 1 d_MD_rank_12 rfl rfl ?_
        refine g_iload C 4 d_MD_rank_13 rfl ?_
        refine g_callVi C 52 rfl [.int x1, .int x4_3] [] (c_MD_at  hw) (em_cwV C 2 mw_456 mw_457 mw_42 mw_71 mw_458 rfl rfl (by decide +kernel) (by decide)) em_nc_MD em_sh_MD rfl rfl rfl (Nat.le_of_ble_eq_true rfl) d_MD_rank_15 (by decide) (fun r_6 M_5 hw => ?_)
        obtain ⟨rfl, hw⟩ := hw
        obtain ⟨J_7, hJ_7, hw⟩ := em_jn1 hw
        have j_7 : ∀ (z_9 : Int32) , J_7 z_9 → em_G X D b0 cT ad 5 (SH ad) NC 0 0 M 28 [(0, .ref (ad (52))), (1, .int x1), (2, .int x2), (3, .int x3_2), (4, .int x4_3)] [.int z_9] := by
          intro z_9 hw
          have hw := hJ_7 z_9 hw
          refine g_istore_n (lv' := [(3, .int z_9), (0, .ref (ad (52))), (1, .int x1), (2, .int x2), (4, .int x4_3)]) C 3 d_MD_rank_28 rfl (by decide) rfl ?_
          obtain ⟨x4_10, ex4_10⟩ : ∃ y : Int32, y = x4_3 + nI 1 := ⟨_, rfl⟩
          have hw := hw x4_10 ex4_10
          refine g_iinc (v := x4_10) (lv' := [(4, .int x4_10), (3, .int z_9), (0, .ref (ad (52))), (1, .int x1), (2, .int x2)]) C 4 d_MD_rank_29 rfl (by rw [ex4_10]; first | rfl | (congr 1)) (by decide) rfl ?_
          refine g_goto (tgt := 5) C d_MD_rank_32 (by decide) ?_
          refine g_sub [2, 3, 4, 1, 0] rfl ?_
          exact ih_1 z_9 x4_10 (Nat.lt_of_lt_of_le hw.2 (Nat.le_of_lt_succ hn_1)) hw.1
        refine g_if_le (tgt := 27) C d_MD_rank_18 (by decide) (fun hc_11 => ?_) (fun hc_11 => ?_)
        · have hw := hw.1 hc_11
          refine g_iload_n C 3 3 d_MD_rank_27 rfl rfl ?_
          refine g_sub [0, 1, 2, 3, 4] rfl ?_
          exact j_7 x3_2 hw
        · have hw := hw.2 hc_11
          refine g_iload_n C 3 3 d_MD_rank_21 rfl rfl ?_
          refine g_iconst (v := (nI 1)) C d_MD_rank_22 (by decide) ?_
          refine g_iadd C d_MD_rank_23 ?_
          refine g_goto (tgt := 28) C d_MD_rank_24 (by decide) ?_
          refine g_sub [0, 1, 2, 3, 4] rfl ?_
          exact j_7 (x3_2 + (nI 1)) hw
  exact lp_1 _ (nI 0) (nI 0) (Nat.lt_succ_self _) h0
theorem c_MD_rank {l : Launch} {D : va_G} {b0 : Nat} {cT : Nat → ClassId} {ad : Nat → Nat} {post : Int32 → Prop} {x1 : Int32} {x2 : Int32} {M : em_M}  (hw : wp_MD_rank post x1 x2 M) : Met l y_MD_rank (.code y_MD_rank b_MD_rank 5 (some .int) :: wAll) rm_MD_rank (va_Pc [.ref (ad (52)), .int x1, .int x2] (em_U D b0 cT ad (SH ad) NC M)) (va_Qi (fun r M1 => M = M1 ∧ post r) (em_U D b0 cT ad (SH ad) NC) (em_A b0)) 0 0 (em_A b0) :=
  em_met (by decide) rfl (Nat.le_of_ble_eq_true rfl) (fun X C _ _ hQ => v_MD_rank  C hQ hw)
set_option maxHeartbeats 4000000 in
set_option maxRecDepth 100000 in
theorem v_MD_lastOf {X : em_X} {D : va_G} {b0 : Nat} {cT : Nat → ClassId} {ad : Nat → Nat} {post : Int32 → Prop} {x1 : Int32} {x2 : Int32} {M : em_M}  (C : em_Cx X D b0 cT R_MD b_MD_lastOf (some .int) 6 rm_MD_lastOf) (hQ : xQ X = MQ (xB X) (va_Qi (fun r M1 => M = M1 ∧ post r) (em_U D b0 cT ad (SH ad) NC) (em_A b0)) (xA X) (xS X) 0 0 (em_A b0)) (hw : wp_MD_lastOf post x1 x2 M) : em_G X D b0 cT ad 6 (SH ad) NC 0 0 M 0 [(0, .ref (ad (52))), (1, .int x1), (2, .int x2)] [] := by
  unfold wp_MD_lastOf at hw
  refine g_iconst (v := (nI 0)) C d_MD_lastOf_0 (by decide) ?_
  refine g_istore_n (lv' := [(3, .int (nI 0)), (0, .ref (ad (52))), (1, .int x1), (2, .int x2)]) C 3 d_MD_lastOf_1 rfl (by decide) rfl ?_
  refine g_iconst (v := (nI 0)) C d_MD_lastOf_2 (by decide) ?_
  refine g_istore (lv' := [(4, .int (nI 0)), (3, .int (nI 0)), (0, .ref (ad (52))), (1, .int x1), (2, .int x2)]) C d_MD_lastOf_3 (by decide) rfl ?_
  refine g_iconst (v := (nI 0)) C d_MD_lastOf_5 (by decide) ?_
  refine g_istore (lv' := [(5, .int (nI 0)), (4, .int (nI 0)), (3, .int (nI 0)), (0, .ref (ad (52))), (1, .int x1), (2, .int x2)]) C d_MD_lastOf_6 (by decide) rfl ?_
  obtain ⟨I_1, mu_1, h0, hw⟩ := hw
  refine g_sub [3, 4, 5, 2, 1, 0] rfl ?_
  have lp_1 : ∀ (n_1 : Nat) (x3_2 : Int32) (x4_3 : Int32) (x5_4 : Int32) , mu_1 x3_2 x4_3 x5_4 < n_1 → I_1 x3_2 x4_3 x5_4 → em_G X D b0 cT ad 6 (SH ad) NC 0 0 M 8 [(0, .ref (ad (52))), (1, .int x1), (2, .int x2), (3, .int x3_2), (4, .int x4_3), (5, .int x5_4)] [] := by
    intro n_1
    induction n_1 with
    | zero => intro x3_2 x4_3 x5_4 h; exact absurd h (Nat.not_lt_zero _)
    | succ n_1 ih_1 =>
      intro x3_2 x4_3 x5_4 hn_1 hi
      have hw := hw x3_2 x4_3 x5_4 hi
      refine g_iload C 5 d_MD_lastOf_8 rfl ?_
      refine g_sipush (v := (nI 512)) C d_MD_lastOf_10 (by decide) ?_
      refine g_icmp_ge (tgt := 57) C d_MD_lastOf_13 (by decide) (fun hc_5 => ?_) (fun hc_5 => ?_)
      · have hw := hw.1 hc_5
        refine g_iload_n C 3 3 d_MD_lastOf_57 rfl rfl ?_
        exact g_iret C hQ rfl d_MD_lastOf_58 ⟨rfl, hw⟩
      · have hw := hw.2 hc_5
        refine g_aload_n C 0 0 d_MD_lastOf_16 rfl rfl ?_
        refine g_iload_n C 1 1 d_MD_lastOf_17 rfl rfl ?_
        refine g_iload C 5 d_MD_lastOf_18 rfl ?_
        refine g_callVi C 52 rfl [.int x1, .int x5_4] [] (c_MD_at  hw) (em_cwV C 2 mw_456 mw_457 mw_42 mw_71 mw_458 rfl rfl (by decide +kernel) (by decide)) em_nc_MD em_sh_MD rfl rfl rfl (Nat.le_of_ble_eq_true rfl) d_MD_lastOf_20 (by decide) (fun r_7 M_6 hw => ?_)
        obtain ⟨rfl, hw⟩ := hw
        obtain ⟨J_8, hJ_8, hw⟩ := em_jn2 hw
        have j_8 : ∀ (x3_15 : Int32) (x4_16 : Int32) , J_8 x3_15 x4_16 → em_G X D b0 cT ad 6 (SH ad) NC 0 0 M 51 [(0, .ref (ad (52))), (1, .int x1), (2, .int x2), (3, .int x3_15), (4, .int x4_16), (5, .int x5_4)] [] := by
          intro x3_15 x4_16 hw
          have hw := hJ_8 x3_15 x4_16 hw
          obtain ⟨x5_17, ex5_17⟩ : ∃ y : Int32, y = x5_4 + nI 1 := ⟨_, rfl⟩
          have hw := hw x5_17 ex5_17
          refine g_iinc (v := x5_17) (lv' := [(5, .int x5_17), (0, .ref (ad (52))), (1, .int x1), (2, .int x2), (3, .int x3_15), (4, .int x4_16)]) C 5 d_MD_lastOf_51 rfl (by rw [ex5_17]; first | rfl | (congr 1)) (by decide) rfl ?_
          refine g_goto (tgt := 8) C d_MD_lastOf_54 (by decide) ?_
          refine g_sub [1, 2, 3, 4, 5, 0] rfl ?_
          exact ih_1 x3_15 x4_16 x5_17 (Nat.lt_of_lt_of_le hw.2 (Nat.le_of_lt_succ hn_1)) hw.1
        refine g_if_le (tgt := 51) C d_MD_lastOf_23 (by decide) (fun hc_18 => ?_) (fun hc_18 => ?_)
        · have hw := hw.1 hc_18
          refine g_sub [0, 1, 2, 3, 4, 5] rfl ?_
          exact j_8 x3_2 x4_3 hw
        · have hw := hw.2 hc_18
          refine g_iload C 4 d_MD_lastOf_26 rfl ?_
          refine g_iload_n C 2 2 d_MD_lastOf_28 rfl rfl ?_
          obtain ⟨J_19, hJ_19, hw⟩ := em_jn1 hw
          have j_19 : ∀ (z_22 : Int32) , J_19 z_22 → em_G X D b0 cT ad 6 (SH ad) NC 0 0 M 47 [(0, .ref (ad (52))), (1, .int x1), (2, .int x2), (3, .int x3_2), (4, .int x4_3), (5, .int x5_4)] [.int z_22] := by
            intro z_22 hw
            have hw := hJ_19 z_22 hw
            refine g_istore_n (lv' := [(3, .int z_22), (0, .ref (ad (52))), (1, .int x1), (2, .int x2), (4, .int x4_3), (5, .int x5_4)]) C 3 d_MD_lastOf_47 rfl (by decide) rfl ?_
            obtain ⟨x4_23, ex4_23⟩ : ∃ y : Int32, y = x4_3 + nI 1 := ⟨_, rfl⟩
            have hw := hw x4_23 ex4_23
            refine g_iinc (v := x4_23) (lv' := [(4, .int x4_23), (3, .int z_22), (0, .ref (ad (52))), (1, .int x1), (2, .int x2), (5, .int x5_4)]) C 4 d_MD_lastOf_48 rfl (by rw [ex4_23]; first | rfl | (congr 1)) (by decide) rfl ?_
            refine g_sub [2, 3, 4, 1, 0, 5] rfl ?_
            exact j_8 z_22 x4_23 hw
          obtain ⟨J_24, hJ_24, hw⟩ := em_jn0 hw
          have j_24 : J_24 → em_G X D b0 cT ad 6 (SH ad) NC 0 0 M 46 [(0, .ref (ad (52))), (1, .int x1), (2, .int x2), (3, .int x3_2), (4, .int x4_3), (5, .int x5_4)] [] := by
            intro  hw
            have hw := hJ_24  hw
            refine g_iload_n C 3 3 d_MD_lastOf_46 rfl rfl ?_
            refine g_sub [0, 1, 2, 3, 4, 5] rfl ?_
            exact j_19 x3_2 hw
          refine g_icmp_lt (tgt := 46) C d_MD_lastOf_29 (by decide) (fun hc_27 => ?_) (fun hc_27 => ?_)
          · have hw := hw.1 hc_27
            refine g_sub [0, 1, 2, 3, 4, 5] rfl ?_
            exact j_24  hw
          · have hw := hw.2 hc_27
            refine g_iload C 4 d_MD_lastOf_32 rfl ?_
            refine g_iload_n C 2 2 d_MD_lastOf_34 rfl rfl ?_
            refine g_bipush (v := (nI 8)) C d_MD_lastOf_35 (by decide) ?_
            refine g_iadd C d_MD_lastOf_37 ?_
            refine g_icmp_ge (tgt := 46) C d_MD_lastOf_38 (by decide) (fun hc_28 => ?_) (fun hc_28 => ?_)
            · have hw := hw.1 hc_28
              refine g_sub [0, 1, 2, 3, 4, 5] rfl ?_
              exact j_24  hw
            · have hw := hw.2 hc_28
              refine g_iload C 5 d_MD_lastOf_41 rfl ?_
              refine g_goto (tgt := 47) C d_MD_lastOf_43 (by decide) ?_
              refine g_sub [0, 1, 2, 3, 4, 5] rfl ?_
              exact j_19 x5_4 hw
  exact lp_1 _ (nI 0) (nI 0) (nI 0) (Nat.lt_succ_self _) h0
theorem c_MD_lastOf {l : Launch} {D : va_G} {b0 : Nat} {cT : Nat → ClassId} {ad : Nat → Nat} {post : Int32 → Prop} {x1 : Int32} {x2 : Int32} {M : em_M}  (hw : wp_MD_lastOf post x1 x2 M) : Met l y_MD_lastOf (.code y_MD_lastOf b_MD_lastOf 6 (some .int) :: wAll) rm_MD_lastOf (va_Pc [.ref (ad (52)), .int x1, .int x2] (em_U D b0 cT ad (SH ad) NC M)) (va_Qi (fun r M1 => M = M1 ∧ post r) (em_U D b0 cT ad (SH ad) NC) (em_A b0)) 0 0 (em_A b0) :=
  em_met (by decide) rfl (Nat.le_of_ble_eq_true rfl) (fun X C _ _ hQ => v_MD_lastOf  C hQ hw)
set_option maxHeartbeats 4000000 in
set_option maxRecDepth 100000 in
theorem v_MD_skipTo {X : em_X} {D : va_G} {b0 : Nat} {cT : Nat → ClassId} {ad : Nat → Nat} {post : Int32 → Prop} {x1 : Int32} {x2 : Int32} {M : em_M}  (C : em_Cx X D b0 cT R_MD b_MD_skipTo (some .int) 8 rm_MD_skipTo) (hQ : xQ X = MQ (xB X) (va_Qi (fun r M1 => M = M1 ∧ post r) (em_U D b0 cT ad (SH ad) NC) (em_A b0)) (xA X) (xS X) 0 0 (em_A b0)) (hw : wp_MD_skipTo post x1 x2 M) : em_G X D b0 cT ad 8 (SH ad) NC 0 0 M 0 [(0, .ref (ad (52))), (1, .int x1), (2, .int x2)] [] := by
  unfold wp_MD_skipTo at hw
  refine g_iconst (v := (nI 0)) C d_MD_skipTo_0 (by decide) ?_
  refine g_istore_n (lv' := [(3, .int (nI 0)), (0, .ref (ad (52))), (1, .int x1), (2, .int x2)]) C 3 d_MD_skipTo_1 rfl (by decide) rfl ?_
  refine g_sipush (v := (nI 512)) C d_MD_skipTo_2 (by decide) ?_
  refine g_istore (lv' := [(4, .int (nI 512)), (3, .int (nI 0)), (0, .ref (ad (52))), (1, .int x1), (2, .int x2)]) C d_MD_skipTo_5 (by decide) rfl ?_
  refine g_iconst (v := (nI 0)) C d_MD_skipTo_7 (by decide) ?_
  refine g_istore (lv' := [(5, .int (nI 0)), (4, .int (nI 512)), (3, .int (nI 0)), (0, .ref (ad (52))), (1, .int x1), (2, .int x2)]) C d_MD_skipTo_8 (by decide) rfl ?_
  obtain ⟨I_1, mu_1, h0, hw⟩ := hw
  refine g_sub [3, 4, 5, 2, 1, 0] rfl ?_
  have lp_1 : ∀ (n_1 : Nat) (x3_2 : Int32) (x4_3 : Int32) (x5_4 : Int32) , mu_1 x3_2 x4_3 x5_4 < n_1 → I_1 x3_2 x4_3 x5_4 → em_G X D b0 cT ad 8 (SH ad) NC 0 0 M 10 [(0, .ref (ad (52))), (1, .int x1), (2, .int x2), (3, .int x3_2), (4, .int x4_3), (5, .int x5_4)] [] := by
    intro n_1
    induction n_1 with
    | zero => intro x3_2 x4_3 x5_4 h; exact absurd h (Nat.not_lt_zero _)
    | succ n_1 ih_1 =>
      intro x3_2 x4_3 x5_4 hn_1 hi
      have hw := hw x3_2 x4_3 x5_4 hi
      refine g_iload C 5 d_MD_skipTo_10 rfl ?_
      refine g_bipush (v := (nI 12)) C d_MD_skipTo_12 (by decide) ?_
      refine g_icmp_ge (tgt := 167) C d_MD_skipTo_14 (by decide) (fun hc_5 => ?_) (fun hc_5 => ?_)
      · have hw := hw.1 hc_5
        refine g_iload_n C 3 3 d_MD_skipTo_167 rfl rfl ?_
        refine g_iload_n C 2 2 d_MD_skipTo_168 rfl rfl ?_
        refine g_icmp_le (tgt := 176) C d_MD_skipTo_169 (by decide) (fun hc_6 => ?_) (fun hc_6 => ?_)
        · have hw := hw.1 hc_6
          refine g_iload C 4 d_MD_skipTo_176 rfl ?_
          exact g_iret C hQ rfl d_MD_skipTo_178 ⟨rfl, hw⟩
        · have hw := hw.2 hc_6
          refine g_iconst (v := (-1 : Int32)) C d_MD_skipTo_172 (by decide) ?_
          refine g_goto (tgt := 178) C d_MD_skipTo_173 (by decide) ?_
          exact g_iret C hQ rfl d_MD_skipTo_178 ⟨rfl, hw⟩
      · have hw := hw.2 hc_5
        refine g_aload_n C 0 0 d_MD_skipTo_17 rfl rfl ?_
        refine g_iload C 5 d_MD_skipTo_18 rfl ?_
        refine g_callVi C 52 rfl [.int x5_4] [] (c_MD_isLine  hw) (em_cwV C 1 mw_523 mw_524 mw_51 mw_71 mw_525 rfl rfl (by decide +kernel) (by decide)) em_nc_MD em_sh_MD rfl rfl rfl (Nat.le_of_ble_eq_true rfl) d_MD_skipTo_20 (by decide) (fun r_8 M_7 hw => ?_)
        obtain ⟨rfl, hw⟩ := hw
        obtain ⟨J_9, hJ_9, hw⟩ := em_jn2 hw
        have j_9 : ∀ (x3_52 : Int32) (x4_53 : Int32) , J_9 x3_52 x4_53 → em_G X D b0 cT ad 8 (SH ad) NC 0 0 M 161 [(0, .ref (ad (52))), (1, .int x1), (2, .int x2), (3, .int x3_52), (4, .int x4_53), (5, .int x5_4)] [] := by
          intro x3_52 x4_53 hw
          have hw := hJ_9 x3_52 x4_53 hw
          obtain ⟨x5_54, ex5_54⟩ : ∃ y : Int32, y = x5_4 + nI 1 := ⟨_, rfl⟩
          have hw := hw x5_54 ex5_54
          refine g_iinc (v := x5_54) (lv' := [(5, .int x5_54), (0, .ref (ad (52))), (1, .int x1), (2, .int x2), (3, .int x3_52), (4, .int x4_53)]) C 5 d_MD_skipTo_161 rfl (by rw [ex5_54]; first | rfl | (congr 1)) (by decide) rfl ?_
          refine g_goto (tgt := 10) C d_MD_skipTo_164 (by decide) ?_
          refine g_sub [1, 2, 3, 4, 5, 0] rfl ?_
          exact ih_1 x3_52 x4_53 x5_54 (Nat.lt_of_lt_of_le hw.2 (Nat.le_of_lt_succ hn_1)) hw.1
        obtain ⟨J_55, hJ_55, hw⟩ := em_jn0 hw
        have j_55 : J_55 → em_G X D b0 cT ad 8 (SH ad) NC 0 0 M 66 [(0, .ref (ad (52))), (1, .int x1), (2, .int x2), (3, .int x3_2), (4, .int x4_3), (5, .int x5_4)] [] := by
          intro  hw
          have hw := hJ_55  hw
          refine g_aload_n C 0 0 d_MD_skipTo_66 rfl rfl ?_
          refine g_iload C 5 d_MD_skipTo_67 rfl ?_
          refine g_callVi C 52 rfl [.int x5_4] [] (c_MD_isLine  hw) (em_cwV C 1 mw_523 mw_524 mw_51 mw_71 mw_525 rfl rfl (by decide +kernel) (by decide)) em_nc_MD em_sh_MD rfl rfl rfl (Nat.le_of_ble_eq_true rfl) d_MD_skipTo_69 (by decide) (fun r_62 M_61 hw => ?_)
          obtain ⟨rfl, hw⟩ := hw
          refine g_if_eq (tgt := 161) C d_MD_skipTo_72 (by decide) (fun hc_63 => ?_) (fun hc_63 => ?_)
          · have hw := hw.1 hc_63
            refine g_sub [0, 1, 2, 3, 4, 5] rfl ?_
            exact j_9 x3_2 x4_3 hw
          · have hw := hw.2 hc_63
            refine g_aload_n C 0 0 d_MD_skipTo_75 rfl rfl ?_
            refine g_iload C 5 d_MD_skipTo_76 rfl ?_
            refine g_iload_n C 1 1 d_MD_skipTo_78 rfl rfl ?_
            refine g_callVi C 52 rfl [.int x5_4, .int x1] [] (c_MD_firstFrom  hw) (em_cwV C 2 mw_514 mw_515 mw_48 mw_71 mw_516 rfl rfl (by decide +kernel) (by decide)) em_nc_MD em_sh_MD rfl rfl rfl (Nat.le_of_ble_eq_true rfl) d_MD_skipTo_79 (by decide) (fun r_65 M_64 hw => ?_)
            obtain ⟨rfl, hw⟩ := hw
            refine g_sipush (v := (nI 512)) C d_MD_skipTo_82 (by decide) ?_
            refine g_icmp_ge (tgt := 161) C d_MD_skipTo_85 (by decide) (fun hc_66 => ?_) (fun hc_66 => ?_)
            · have hw := hw.1 hc_66
              refine g_sub [0, 1, 2, 3, 4, 5] rfl ?_
              exact j_9 x3_2 x4_3 hw
            · have hw := hw.2 hc_66
              refine g_aload_n C 0 0 d_MD_skipTo_88 rfl rfl ?_
              refine g_iload C 5 d_MD_skipTo_89 rfl ?_
              refine g_aload_n C 0 0 d_MD_skipTo_91 rfl rfl ?_
              refine g_iload C 5 d_MD_skipTo_92 rfl ?_
              refine g_iload_n C 1 1 d_MD_skipTo_94 rfl rfl ?_
              refine g_callVi C 52 rfl [.int x5_4, .int x1] [.int x5_4, .ref (ad (52))] (c_MD_firstFrom  hw) (em_cwV C 2 mw_514 mw_515 mw_48 mw_71 mw_516 rfl rfl (by decide +kernel) (by decide)) em_nc_MD em_sh_MD rfl rfl rfl (Nat.le_of_ble_eq_true rfl) d_MD_skipTo_95 (by decide) (fun r_68 M_67 hw => ?_)
              obtain ⟨rfl, hw⟩ := hw
              refine g_callVi C 52 rfl [.int x5_4, .int r_68] [] (c_MD_rank  hw) (em_cwV C 2 mw_535 mw_536 mw_55 mw_71 mw_537 rfl rfl (by decide +kernel) (by decide)) em_nc_MD em_sh_MD rfl rfl rfl (Nat.le_of_ble_eq_true rfl) d_MD_skipTo_98 (by decide) (fun r_70 M_69 hw => ?_)
              obtain ⟨rfl, hw⟩ := hw
              refine g_bipush (v := (nI 8)) C d_MD_skipTo_101 (by decide) ?_
              refine g_idiv C d_MD_skipTo_103 (by decide) ?_
              refine g_bipush (v := (nI 8)) C d_MD_skipTo_104 (by decide) ?_
              refine g_imul C d_MD_skipTo_106 ?_
              refine g_topi (fun x6_71 ex6_71 => ?_)
              have hw := hw x6_71 ex6_71
              refine g_istore (lv' := [(6, .int x6_71), (0, .ref (ad (52))), (1, .int x1), (2, .int x2), (3, .int x3_2), (4, .int x4_3), (5, .int x5_4)]) C d_MD_skipTo_107 (by decide) rfl ?_
              refine g_iload_n C 4 3 d_MD_skipTo_109 rfl rfl ?_
              refine g_aload_n C 1 0 d_MD_skipTo_110 rfl rfl ?_
              refine g_getr C 52 4 rfl d_MD_skipTo_111 em_nc_MD em_sh_MD rfl (by decide) rfl in_MD mw_403 rfl ?_
              refine g_iload C 6 d_MD_skipTo_114 rfl ?_
              obtain ⟨hb_72, hw⟩ := hw
              refine g_iald C 56 rfl d_MD_skipTo_116 em_nc_mWeight em_sh_mWeight rfl hb_72 ?_
              refine g_aload_n C 1 0 d_MD_skipTo_117 rfl rfl ?_
              refine g_iload C 6 d_MD_skipTo_118 rfl ?_
              refine g_iload C 0 d_MD_skipTo_120 rfl ?_
              refine g_iload C 0 d_MD_skipTo_122 rfl ?_
              refine g_bipush (v := (nI 8)) C d_MD_skipTo_124 (by decide) ?_
              refine g_iadd C d_MD_skipTo_126 ?_
              refine g_callVi C 52 rfl [.int x5_4, .int x6_71, .int (x6_71 + (nI 8))] [.int (M (56) x5_4.toNatClampNeg), .int x3_2] (c_MD_topOf  hw) (em_cwV C 3 mw_474 mw_475 mw_44 mw_71 mw_476 rfl rfl (by decide +kernel) (by decide)) em_nc_MD em_sh_MD rfl rfl rfl (Nat.le_of_ble_eq_true rfl) d_MD_skipTo_127 (by decide) (fun r_74 M_73 hw => ?_)
              obtain ⟨rfl, hw⟩ := hw
              refine g_imul C d_MD_skipTo_130 ?_
              refine g_iadd C d_MD_skipTo_131 ?_
              refine g_topi (fun x3_75 ex3_75 => ?_)
              have hw := hw x3_75 ex3_75
              refine g_istore_n (lv' := [(3, .int x3_75), (6, .int x6_71), (0, .ref (ad (52))), (1, .int x1), (2, .int x2), (4, .int x4_3), (5, .int x5_4)]) C 3 d_MD_skipTo_132 rfl (by decide) rfl ?_
              refine g_aload_n C 2 0 d_MD_skipTo_133 rfl rfl ?_
              refine g_iload C 6 d_MD_skipTo_134 rfl ?_
              refine g_iload C 1 d_MD_skipTo_136 rfl ?_
              refine g_callVi C 52 rfl [.int x5_4, .int x6_71] [] (c_MD_lastOf  hw) (em_cwV C 2 mw_538 mw_539 mw_56 mw_71 mw_540 rfl rfl (by decide +kernel) (by decide)) em_nc_MD em_sh_MD rfl rfl rfl (Nat.le_of_ble_eq_true rfl) d_MD_skipTo_138 (by decide) (fun r_77 M_76 hw => ?_)
              obtain ⟨rfl, hw⟩ := hw
              refine g_iconst (v := (nI 1)) C d_MD_skipTo_141 (by decide) ?_
              refine g_iadd C d_MD_skipTo_142 ?_
              refine g_topi (fun x7_78 ex7_78 => ?_)
              have hw := hw x7_78 ex7_78
              refine g_istore (lv' := [(7, .int x7_78), (3, .int x3_75), (6, .int x6_71), (0, .ref (ad (52))), (1, .int x1), (2, .int x2), (4, .int x4_3), (5, .int x5_4)]) C d_MD_skipTo_143 (by decide) rfl ?_
              refine g_iload C 0 d_MD_skipTo_145 rfl ?_
              refine g_iload C 6 d_MD_skipTo_147 rfl ?_
              obtain ⟨J_79, hJ_79, hw⟩ := em_jn1 hw
              have j_79 : ∀ (z_81 : Int32) , J_79 z_81 → em_G X D b0 cT ad 8 (SH ad) NC 0 0 M 159 [(0, .ref (ad (52))), (1, .int x1), (2, .int x2), (3, .int x3_75), (4, .int x4_3), (5, .int x5_4), (6, .int x6_71), (7, .int x7_78)] [.int z_81] := by
                intro z_81 hw
                have hw := hJ_79 z_81 hw
                refine g_istore (lv' := [(4, .int z_81), (0, .ref (ad (52))), (1, .int x1), (2, .int x2), (3, .int x3_75), (5, .int x5_4), (6, .int x6_71), (7, .int x7_78)]) C d_MD_skipTo_159 (by decide) rfl ?_
                refine g_sub [1, 2, 3, 4, 0, 5] rfl ?_
                exact j_9 x3_75 z_81 hw
              refine g_icmp_ge (tgt := 157) C d_MD_skipTo_149 (by decide) (fun hc_82 => ?_) (fun hc_82 => ?_)
              · have hw := hw.1 hc_82
                refine g_iload C 6 d_MD_skipTo_157 rfl ?_
                refine g_sub [3, 4, 5, 1, 6, 7, 2, 0] rfl ?_
                exact j_79 x4_3 hw
              · have hw := hw.2 hc_82
                refine g_iload C 0 d_MD_skipTo_152 rfl ?_
                refine g_goto (tgt := 159) C d_MD_skipTo_154 (by decide) ?_
                refine g_sub [3, 4, 5, 1, 6, 7, 2, 0] rfl ?_
                exact j_79 x7_78 hw
        refine g_if_eq (tgt := 66) C d_MD_skipTo_23 (by decide) (fun hc_83 => ?_) (fun hc_83 => ?_)
        · have hw := hw.1 hc_83
          refine g_sub [0, 1, 2, 3, 4, 5] rfl ?_
          exact j_55  hw
        · have hw := hw.2 hc_83
          refine g_aload_n C 0 0 d_MD_skipTo_26 rfl rfl ?_
          refine g_getr C 52 15 rfl d_MD_skipTo_27 em_nc_MD em_sh_MD rfl (by decide) rfl in_MD mw_414 rfl ?_
          refine g_iload C 5 d_MD_skipTo_30 rfl ?_
          obtain ⟨hb_84, hw⟩ := hw
          refine g_iald C 61 rfl d_MD_skipTo_32 em_nc_mLine em_sh_mLine rfl hb_84 ?_
          refine g_iload_n C 1 1 d_MD_skipTo_33 rfl rfl ?_
          refine g_icmp_le (tgt := 66) C d_MD_skipTo_34 (by decide) (fun hc_85 => ?_) (fun hc_85 => ?_)
          · have hw := hw.1 hc_85
            refine g_sub [0, 1, 2, 3, 4, 5] rfl ?_
            exact j_55  hw
          · have hw := hw.2 hc_85
            refine g_aload_n C 0 0 d_MD_skipTo_37 rfl rfl ?_
            refine g_getr C 52 15 rfl d_MD_skipTo_38 em_nc_MD em_sh_MD rfl (by decide) rfl in_MD mw_414 rfl ?_
            refine g_iload C 5 d_MD_skipTo_41 rfl ?_
            refine g_iald C 61 rfl d_MD_skipTo_43 em_nc_mLine em_sh_mLine rfl hb_84 ?_
            refine g_iload C 4 d_MD_skipTo_44 rfl ?_
            obtain ⟨J_86, hJ_86, hw⟩ := em_jn1 hw
            have j_86 : ∀ (z_88 : Int32) , J_86 z_88 → em_G X D b0 cT ad 8 (SH ad) NC 0 0 M 61 [(0, .ref (ad (52))), (1, .int x1), (2, .int x2), (3, .int x3_2), (4, .int x4_3), (5, .int x5_4)] [.int z_88] := by
              intro z_88 hw
              have hw := hJ_86 z_88 hw
              refine g_istore (lv' := [(4, .int z_88), (0, .ref (ad (52))), (1, .int x1), (2, .int x2), (3, .int x3_2), (5, .int x5_4)]) C d_MD_skipTo_61 (by decide) rfl ?_
              refine g_goto (tgt := 161) C d_MD_skipTo_63 (by decide) ?_
              refine g_sub [1, 2, 3, 4, 0, 5] rfl ?_
              exact j_9 x3_2 z_88 hw
            refine g_icmp_ge (tgt := 59) C d_MD_skipTo_46 (by decide) (fun hc_89 => ?_) (fun hc_89 => ?_)
            · have hw := hw.1 hc_89
              refine g_iload C 4 d_MD_skipTo_59 rfl ?_
              refine g_sub [0, 1, 2, 3, 4, 5] rfl ?_
              exact j_86 x4_3 hw
            · have hw := hw.2 hc_89
              refine g_aload_n C 0 0 d_MD_skipTo_49 rfl rfl ?_
              refine g_getr C 52 15 rfl d_MD_skipTo_50 em_nc_MD em_sh_MD rfl (by decide) rfl in_MD mw_414 rfl ?_
              refine g_iload C 5 d_MD_skipTo_53 rfl ?_
              refine g_iald C 61 rfl d_MD_skipTo_55 em_nc_mLine em_sh_mLine rfl hb_84 ?_
              refine g_goto (tgt := 61) C d_MD_skipTo_56 (by decide) ?_
              refine g_sub [0, 1, 2, 3, 4, 5] rfl ?_
              exact j_86 (M (61) x5_4.toNatClampNeg) hw
  exact lp_1 _ (nI 0) (nI 512) (nI 0) (Nat.lt_succ_self _) h0
theorem c_MD_skipTo {l : Launch} {D : va_G} {b0 : Nat} {cT : Nat → ClassId} {ad : Nat → Nat} {post : Int32 → Prop} {x1 : Int32} {x2 : Int32} {M : em_M}  (hw : wp_MD_skipTo post x1 x2 M) : Met l y_MD_skipTo (.code y_MD_skipTo b_MD_skipTo 8 (some .int) :: wAll) rm_MD_skipTo (va_Pc [.ref (ad (52)), .int x1, .int x2] (em_U D b0 cT ad (SH ad) NC M)) (va_Qi (fun r M1 => M = M1 ∧ post r) (em_U D b0 cT ad (SH ad) NC) (em_A b0)) 0 0 (em_A b0) :=
  em_met (by decide) rfl (Nat.le_of_ble_eq_true rfl) (fun X C _ _ hQ => v_MD_skipTo  C hQ hw)
set_option maxHeartbeats 4000000 in
set_option maxRecDepth 100000 in
theorem v_MD_judge {X : em_X} {D : va_G} {b0 : Nat} {cT : Nat → ClassId} {ad : Nat → Nat} {post : em_M → Prop} {x1 : Int32} {M : em_M}  (C : em_Cx X D b0 cT R_MD b_MD_judge none 5 rm_MD_judge) (hQ : xQ X = MQ (xB X) (va_Qv post (em_U D b0 cT ad (SH ad) NC) (em_A b0)) (xA X) (xS X) 0 0 (em_A b0)) (hw : wp_MD_judge post x1 M) : em_G X D b0 cT ad 5 (SH ad) NC 0 0 M 0 [(0, .ref (ad (52))), (1, .int x1)] [] := by
  unfold wp_MD_judge at hw
  refine g_aload_n C 0 0 d_MD_judge_0 rfl rfl ?_
  refine g_dup C d_MD_judge_1 rfl ?_
  refine g_geti C 52 17 rfl d_MD_judge_2 em_nc_MD em_sh_MD rfl (by decide) rfl in_MD mw_416 rfl ?_
  refine g_iconst (v := (nI 1)) C d_MD_judge_5 (by decide) ?_
  refine g_iadd C d_MD_judge_6 ?_
  refine g_puti C 52 17 rfl ty_MD tyok_MD nm_MD d_MD_judge_7 em_nc_MD em_sh_MD rfl (by decide) rfl in_MD mw_416 rfl rfl rfl rfl rfl ?_
  refine g_nameM (fun M_1 eM_1 => ?_)
  have hw := hw M_1 eM_1
  refine g_aload_n C 0 0 d_MD_judge_10 rfl rfl ?_
  refine g_iload_n C 1 1 d_MD_judge_11 rfl rfl ?_
  refine g_callVi C 52 rfl [.int x1] [] (c_MD_sumOf  hw) (em_cwV C 1 mw_503 mw_504 mw_47 mw_71 mw_505 rfl rfl (by decide +kernel) (by decide)) em_nc_MD em_sh_MD rfl rfl rfl (Nat.le_of_ble_eq_true rfl) d_MD_judge_12 (by decide) (fun r_3 M_2 hw => ?_)
  obtain ⟨rfl, hw⟩ := hw
  refine g_istore_n (lv' := [(2, .int r_3), (0, .ref (ad (52))), (1, .int x1)]) C 2 d_MD_judge_15 rfl (by decide) rfl ?_
  refine g_aload_n C 1 0 d_MD_judge_16 rfl rfl ?_
  refine g_geti C 52 6 rfl d_MD_judge_17 em_nc_MD em_sh_MD rfl (by decide) rfl in_MD mw_405 rfl ?_
  obtain ⟨J_4, hJ_4, hw⟩ := em_jn1 hw
  have j_4 : ∀ (z_9 : Int32) , J_4 z_9 → em_G X D b0 cT ad 5 (SH ad) NC 0 0 M_1 52 [(0, .ref (ad (52))), (1, .int x1), (2, .int r_3)] [.int z_9] := by
    intro z_9 hw
    have hw := hJ_4 z_9 hw
    refine g_istore_n (lv' := [(3, .int z_9), (0, .ref (ad (52))), (1, .int x1), (2, .int r_3)]) C 3 d_MD_judge_52 rfl (by decide) rfl ?_
    refine g_iload_n C 0 3 d_MD_judge_53 rfl rfl ?_
    obtain ⟨J_10, hJ_10, hw⟩ := em_jn1 hw
    have j_10 : ∀ (M_16 : em_M) , J_10 M_16 → em_G X D b0 cT ad 5 (SH ad) NC 0 0 M_16 71 [(0, .ref (ad (52))), (1, .int x1), (2, .int r_3), (3, .int z_9)] [] := by
      intro M_16 hw
      have hw := hJ_10 M_16 hw
      refine g_iconst (v := (nI 0)) C d_MD_judge_71 (by decide) ?_
      refine g_istore (lv' := [(4, .int (nI 0)), (0, .ref (ad (52))), (1, .int x1), (2, .int r_3), (3, .int z_9)]) C d_MD_judge_72 (by decide) rfl ?_
      obtain ⟨I_17, mu_17, h0, hw⟩ := hw
      refine g_sub [1, 2, 3, 4, 0] rfl ?_
      have lp_17 : ∀ (n_17 : Nat) (x4_18 : Int32) (M_19 : em_M) , mu_17 x4_18 M_19 < n_17 → I_17 x4_18 M_19 → em_G X D b0 cT ad 5 (SH ad) NC 0 0 M_19 74 [(0, .ref (ad (52))), (1, .int x1), (2, .int r_3), (3, .int z_9), (4, .int x4_18)] [] := by
        intro n_17
        induction n_17 with
        | zero => intro x4_18 M_19 h; exact absurd h (Nat.not_lt_zero _)
        | succ n_17 ih_17 =>
          intro x4_18 M_19 hn_17 hi
          have hw := hw x4_18 M_19 hi
          refine g_iload C 4 d_MD_judge_74 rfl ?_
          refine g_bipush (v := (nI 12)) C d_MD_judge_76 (by decide) ?_
          refine g_icmp_ge (tgt := 123) C d_MD_judge_78 (by decide) (fun hc_20 => ?_) (fun hc_20 => ?_)
          · have hw := hw.1 hc_20
            exact g_vret C hQ rfl d_MD_judge_123 hw
          · have hw := hw.2 hc_20
            refine g_aload_n C 0 0 d_MD_judge_81 rfl rfl ?_
            refine g_iload C 4 d_MD_judge_82 rfl ?_
            refine g_callVi C 52 rfl [.int x4_18] [] (c_MD_isLine  hw) (em_cwV C 1 mw_523 mw_524 mw_51 mw_71 mw_525 rfl rfl (by decide +kernel) (by decide)) em_nc_MD em_sh_MD rfl rfl rfl (Nat.le_of_ble_eq_true rfl) d_MD_judge_84 (by decide) (fun r_22 M_21 hw => ?_)
            obtain ⟨rfl, hw⟩ := hw
            obtain ⟨J_23, hJ_23, hw⟩ := em_jn1 hw
            have j_23 : ∀ (M_30 : em_M) , J_23 M_30 → em_G X D b0 cT ad 5 (SH ad) NC 0 0 M_30 117 [(0, .ref (ad (52))), (1, .int x1), (2, .int r_3), (3, .int z_9), (4, .int x4_18)] [] := by
              intro M_30 hw
              have hw := hJ_23 M_30 hw
              obtain ⟨x4_31, ex4_31⟩ : ∃ y : Int32, y = x4_18 + nI 1 := ⟨_, rfl⟩
              have hw := hw x4_31 ex4_31
              refine g_iinc (v := x4_31) (lv' := [(4, .int x4_31), (0, .ref (ad (52))), (1, .int x1), (2, .int r_3), (3, .int z_9)]) C 4 d_MD_judge_117 rfl (by rw [ex4_31]; first | rfl | (congr 1)) (by decide) rfl ?_
              refine g_goto (tgt := 74) C d_MD_judge_120 (by decide) ?_
              refine g_sub [1, 2, 3, 4, 0] rfl ?_
              exact ih_17 x4_31 M_30 (Nat.lt_of_lt_of_le hw.2 (Nat.le_of_lt_succ hn_17)) hw.1
            refine g_if_eq (tgt := 117) C d_MD_judge_87 (by decide) (fun hc_32 => ?_) (fun hc_32 => ?_)
            · have hw := hw.1 hc_32
              refine g_sub [0, 1, 2, 3, 4] rfl ?_
              exact j_23 M_19 hw
            · have hw := hw.2 hc_32
              refine g_aload_n C 0 0 d_MD_judge_90 rfl rfl ?_
              refine g_getr C 52 15 rfl d_MD_judge_91 em_nc_MD em_sh_MD rfl (by decide) rfl in_MD mw_414 rfl ?_
              refine g_iload C 4 d_MD_judge_94 rfl ?_
              obtain ⟨hb_33, hw⟩ := hw
              refine g_iald C 61 rfl d_MD_judge_96 em_nc_mLine em_sh_mLine rfl hb_33 ?_
              refine g_iload_n C 1 1 d_MD_judge_97 rfl rfl ?_
              refine g_icmp_ne (tgt := 117) C d_MD_judge_98 (by decide) (fun hc_34 => ?_) (fun hc_34 => ?_)
              · have hw := hw.1 hc_34
                refine g_sub [0, 1, 2, 3, 4] rfl ?_
                exact j_23 M_19 hw
              · have hw := hw.2 hc_34
                refine g_aload_n C 0 0 d_MD_judge_101 rfl rfl ?_
                refine g_getr C 52 15 rfl d_MD_judge_102 em_nc_MD em_sh_MD rfl (by decide) rfl in_MD mw_414 rfl ?_
                refine g_iload C 4 d_MD_judge_105 rfl ?_
                refine g_aload_n C 0 0 d_MD_judge_107 rfl rfl ?_
                refine g_iload C 4 d_MD_judge_108 rfl ?_
                refine g_iload_n C 1 1 d_MD_judge_110 rfl rfl ?_
                refine g_iconst (v := (nI 1)) C d_MD_judge_111 (by decide) ?_
                refine g_iadd C d_MD_judge_112 ?_
                refine g_callVi C 52 rfl [.int x4_18, .int (x1 + (nI 1))] [.int x4_18, .ref (ad (61))] (c_MD_firstFrom  hw) (em_cwV C 2 mw_514 mw_515 mw_48 mw_71 mw_516 rfl rfl (by decide +kernel) (by decide)) em_nc_MD em_sh_MD rfl rfl rfl (Nat.le_of_ble_eq_true rfl) d_MD_judge_113 (by decide) (fun r_36 M_35 hw => ?_)
                obtain ⟨rfl, hw⟩ := hw
                refine g_iast C 61 rfl d_MD_judge_116 em_nc_mLine em_sh_mLine rfl hb_33 ?_
                refine g_nameM (fun M_37 eM_37 => ?_)
                have hw := hw M_37 eM_37
                refine g_sub [0, 1, 2, 3, 4] rfl ?_
                exact j_23 M_37 hw
      exact lp_17 _ (nI 0) M_16 (Nat.lt_succ_self _) h0
    refine g_if_eq (tgt := 71) C d_MD_judge_54 (by decide) (fun hc_38 => ?_) (fun hc_38 => ?_)
    · have hw := hw.1 hc_38
      refine g_sub [1, 2, 3, 0] rfl ?_
      exact j_10 M_1 hw
    · have hw := hw.2 hc_38
      refine g_aload_n C 1 0 d_MD_judge_57 rfl rfl ?_
      refine g_iload_n C 2 1 d_MD_judge_58 rfl rfl ?_
      refine g_callVi C 52 rfl [.int x1] [] (c_MD_isFit  hw) (em_cwV C 1 mw_493 mw_494 mw_45 mw_71 mw_495 rfl rfl (by decide +kernel) (by decide)) em_nc_MD em_sh_MD rfl rfl rfl (Nat.le_of_ble_eq_true rfl) d_MD_judge_59 (by decide) (fun r_40 M_39 hw => ?_)
      obtain ⟨rfl, hw⟩ := hw
      refine g_if_eq (tgt := 71) C d_MD_judge_62 (by decide) (fun hc_41 => ?_) (fun hc_41 => ?_)
      · have hw := hw.1 hc_41
        refine g_sub [1, 2, 3, 0] rfl ?_
        exact j_10 M_1 hw
      · have hw := hw.2 hc_41
        refine g_aload_n C 1 0 d_MD_judge_65 rfl rfl ?_
        refine g_iload_n C 2 1 d_MD_judge_66 rfl rfl ?_
        refine g_iload_n C 3 2 d_MD_judge_67 rfl rfl ?_
        refine g_callVv C 52 rfl [.int x1, .int r_3] [] (c_MD_hold  hw) (em_cwV C 2 mw_550 mw_551 mw_60 mw_71 mw_552 rfl rfl (by decide +kernel) (by decide)) em_nc_MD em_sh_MD rfl rfl rfl (Nat.le_of_ble_eq_true rfl) d_MD_judge_68 (by decide) (fun M_42 hw => ?_)
        refine g_sub [1, 2, 3, 0] rfl ?_
        exact j_10 M_42 hw
  obtain ⟨J_43, hJ_43, hw⟩ := em_jn0 hw
  have j_43 : J_43 → em_G X D b0 cT ad 5 (SH ad) NC 0 0 M_1 47 [(0, .ref (ad (52))), (1, .int x1), (2, .int r_3)] [] := by
    intro  hw
    have hw := hJ_43  hw
    refine g_iconst (v := (nI 1)) C d_MD_judge_47 (by decide) ?_
    refine g_goto (tgt := 52) C d_MD_judge_48 (by decide) ?_
    refine g_sub [0, 1, 2] rfl ?_
    exact j_4 (nI 1) hw
  refine g_if_lt (tgt := 47) C d_MD_judge_20 (by decide) (fun hc_48 => ?_) (fun hc_48 => ?_)
  · have hw := hw.1 hc_48
    refine g_sub [1, 2, 0] rfl ?_
    exact j_43  hw
  · have hw := hw.2 hc_48
    refine g_iload_n C 0 2 d_MD_judge_23 rfl rfl ?_
    refine g_aload_n C 1 0 d_MD_judge_24 rfl rfl ?_
    refine g_geti C 52 6 rfl d_MD_judge_25 em_nc_MD em_sh_MD rfl (by decide) rfl in_MD mw_405 rfl ?_
    refine g_icmp_lt (tgt := 47) C d_MD_judge_28 (by decide) (fun hc_49 => ?_) (fun hc_49 => ?_)
    · have hw := hw.1 hc_49
      refine g_sub [1, 2, 0] rfl ?_
      exact j_43  hw
    · have hw := hw.2 hc_49
      refine g_iload_n C 0 2 d_MD_judge_31 rfl rfl ?_
      refine g_aload_n C 1 0 d_MD_judge_32 rfl rfl ?_
      refine g_geti C 52 6 rfl d_MD_judge_33 em_nc_MD em_sh_MD rfl (by decide) rfl in_MD mw_405 rfl ?_
      obtain ⟨J_50, hJ_50, hw⟩ := em_jn0 hw
      have j_50 : J_50 → em_G X D b0 cT ad 5 (SH ad) NC 0 0 M_1 51 [(0, .ref (ad (52))), (1, .int x1), (2, .int r_3)] [] := by
        intro  hw
        have hw := hJ_50  hw
        refine g_iconst (v := (nI 0)) C d_MD_judge_51 (by decide) ?_
        refine g_sub [0, 1, 2] rfl ?_
        exact j_4 (nI 0) hw
      refine g_icmp_ne (tgt := 51) C d_MD_judge_36 (by decide) (fun hc_53 => ?_) (fun hc_53 => ?_)
      · have hw := hw.1 hc_53
        refine g_sub [1, 2, 0] rfl ?_
        exact j_50  hw
      · have hw := hw.2 hc_53
        refine g_iload_n C 2 1 d_MD_judge_39 rfl rfl ?_
        refine g_aload_n C 1 0 d_MD_judge_40 rfl rfl ?_
        refine g_geti C 52 7 rfl d_MD_judge_41 em_nc_MD em_sh_MD rfl (by decide) rfl in_MD mw_406 rfl ?_
        refine g_icmp_le (tgt := 51) C d_MD_judge_44 (by decide) (fun hc_54 => ?_) (fun hc_54 => ?_)
        · have hw := hw.1 hc_54
          refine g_sub [1, 2, 0] rfl ?_
          exact j_50  hw
        · have hw := hw.2 hc_54
          refine g_sub [1, 2, 0] rfl ?_
          exact j_43  hw
theorem c_MD_judge {l : Launch} {D : va_G} {b0 : Nat} {cT : Nat → ClassId} {ad : Nat → Nat} {post : em_M → Prop} {x1 : Int32} {M : em_M}  (hw : wp_MD_judge post x1 M) : Met l y_MD_judge (.code y_MD_judge b_MD_judge 5 none :: wAll) rm_MD_judge (va_Pc [.ref (ad (52)), .int x1] (em_U D b0 cT ad (SH ad) NC M)) (va_Qv post (em_U D b0 cT ad (SH ad) NC) (em_A b0)) 0 0 (em_A b0) :=
  em_met (by decide) rfl (Nat.le_of_ble_eq_true rfl) (fun X C _ _ hQ => v_MD_judge  C hQ hw)
set_option maxHeartbeats 4000000 in
set_option maxRecDepth 100000 in
theorem v_MD_step {X : em_X} {D : va_G} {b0 : Nat} {cT : Nat → ClassId} {ad : Nat → Nat} {post : Int32 → em_M → Prop}  {M : em_M}  (C : em_Cx X D b0 cT R_MD b_MD_step (some .int) 6 rm_MD_step) (hQ : xQ X = MQ (xB X) (va_Qi post (em_U D b0 cT ad (SH ad) NC) (em_A b0)) (xA X) (xS X) 0 0 (em_A b0)) (hw : wp_MD_step post  M) : em_G X D b0 cT ad 6 (SH ad) NC 0 0 M 0 [(0, .ref (ad (52)))] [] := by
  unfold wp_MD_step at hw
  refine g_aload_n C 0 0 d_MD_step_0 rfl rfl ?_
  refine g_callVi C 52 rfl [] [] (c_MD_isAtEnd  hw) (em_cwV C 0 mw_520 mw_521 mw_50 mw_71 mw_522 rfl rfl (by decide +kernel) (by decide)) em_nc_MD em_sh_MD rfl rfl rfl (Nat.le_of_ble_eq_true rfl) d_MD_step_1 (by decide) (fun r_2 M_1 hw => ?_)
  obtain ⟨rfl, hw⟩ := hw
  refine g_if_eq (tgt := 9) C d_MD_step_4 (by decide) (fun hc_3 => ?_) (fun hc_3 => ?_)
  · have hw := hw.1 hc_3
    refine g_aload_n C 0 0 d_MD_step_9 rfl rfl ?_
    refine g_callVi C 52 rfl [] [] (c_MD_floor  hw) (em_cwV C 0 mw_526 mw_527 mw_52 mw_71 mw_528 rfl rfl (by decide +kernel) (by decide)) em_nc_MD em_sh_MD rfl rfl rfl (Nat.le_of_ble_eq_true rfl) d_MD_step_10 (by decide) (fun r_5 M_4 hw => ?_)
    obtain ⟨rfl, hw⟩ := hw
    refine g_istore_n (lv' := [(1, .int r_5), (0, .ref (ad (52)))]) C 1 d_MD_step_13 rfl (by decide) rfl ?_
    refine g_aload_n C 1 0 d_MD_step_14 rfl rfl ?_
    refine g_iload_n C 0 1 d_MD_step_15 rfl rfl ?_
    refine g_callVi C 52 rfl [.int r_5] [] (c_MD_pivot  hw) (em_cwV C 1 mw_529 mw_530 mw_53 mw_71 mw_531 rfl rfl (by decide +kernel) (by decide)) em_nc_MD em_sh_MD rfl rfl rfl (Nat.le_of_ble_eq_true rfl) d_MD_step_16 (by decide) (fun r_7 M_6 hw => ?_)
    obtain ⟨rfl, hw⟩ := hw
    refine g_istore_n (lv' := [(2, .int r_7), (1, .int r_5), (0, .ref (ad (52)))]) C 2 d_MD_step_19 rfl (by decide) rfl ?_
    refine g_iload_n C 0 2 d_MD_step_20 rfl rfl ?_
    refine g_sipush (v := (nI 512)) C d_MD_step_21 (by decide) ?_
    refine g_icmp_ne (tgt := 29) C d_MD_step_24 (by decide) (fun hc_8 => ?_) (fun hc_8 => ?_)
    · have hw := hw.1 hc_8
      refine g_iconst (v := (-1 : Int32)) C d_MD_step_29 (by decide) ?_
      refine g_istore_n (lv' := [(3, .int (-1 : Int32)), (2, .int r_7), (1, .int r_5), (0, .ref (ad (52)))]) C 3 d_MD_step_30 rfl (by decide) rfl ?_
      refine g_iconst (v := (nI 0)) C d_MD_step_31 (by decide) ?_
      refine g_istore (lv' := [(4, .int (nI 0)), (3, .int (-1 : Int32)), (2, .int r_7), (1, .int r_5), (0, .ref (ad (52)))]) C d_MD_step_32 (by decide) rfl ?_
      refine g_iconst (v := (nI 0)) C d_MD_step_34 (by decide) ?_
      refine g_istore (lv' := [(5, .int (nI 0)), (4, .int (nI 0)), (3, .int (-1 : Int32)), (2, .int r_7), (1, .int r_5), (0, .ref (ad (52)))]) C d_MD_step_35 (by decide) rfl ?_
      obtain ⟨I_9, mu_9, h0, hw⟩ := hw
      refine g_sub [5, 4, 3, 2, 1, 0] rfl ?_
      have lp_9 : ∀ (n_9 : Nat) (x3_10 : Int32) (x4_11 : Int32) (x5_12 : Int32) , mu_9 x3_10 x4_11 x5_12 < n_9 → I_9 x3_10 x4_11 x5_12 → em_G X D b0 cT ad 6 (SH ad) NC 0 0 M 37 [(0, .ref (ad (52))), (1, .int r_5), (2, .int r_7), (3, .int x3_10), (4, .int x4_11), (5, .int x5_12)] [] := by
        intro n_9
        induction n_9 with
        | zero => intro x3_10 x4_11 x5_12 h; exact absurd h (Nat.not_lt_zero _)
        | succ n_9 ih_9 =>
          intro x3_10 x4_11 x5_12 hn_9 hi
          have hw := hw x3_10 x4_11 x5_12 hi
          refine g_iload C 5 d_MD_step_37 rfl ?_
          refine g_bipush (v := (nI 12)) C d_MD_step_39 (by decide) ?_
          refine g_icmp_ge (tgt := 136) C d_MD_step_41 (by decide) (fun hc_13 => ?_) (fun hc_13 => ?_)
          · have hw := hw.1 hc_13
            refine g_iload_n C 3 3 d_MD_step_136 rfl rfl ?_
            obtain ⟨J_14, hJ_14, hw⟩ := em_jn1 hw
            have j_14 : ∀ (z_18 : Int32) , J_14 z_18 → em_G X D b0 cT ad 6 (SH ad) NC 0 0 M 150 [(0, .ref (ad (52))), (1, .int r_5), (2, .int r_7), (3, .int x3_10), (4, .int x4_11), (5, .int x5_12)] [.int z_18] := by
              intro z_18 hw
              have hw := hJ_14 z_18 hw
              refine g_istore (lv' := [(5, .int z_18), (0, .ref (ad (52))), (1, .int r_5), (2, .int r_7), (3, .int x3_10), (4, .int x4_11)]) C d_MD_step_150 (by decide) rfl ?_
              refine g_iload C 0 d_MD_step_152 rfl ?_
              refine g_if_lt (tgt := 187) C d_MD_step_154 (by decide) (fun hc_19 => ?_) (fun hc_19 => ?_)
              · have hw := hw.1 hc_19
                refine g_iload C 5 d_MD_step_187 rfl ?_
                refine g_if_eq (tgt := 200) C d_MD_step_189 (by decide) (fun hc_20 => ?_) (fun hc_20 => ?_)
                · have hw := hw.1 hc_20
                  refine g_aload_n C 1 0 d_MD_step_200 rfl rfl ?_
                  refine g_iload_n C 3 2 d_MD_step_201 rfl rfl ?_
                  refine g_callVv C 52 rfl [.int r_7] [] (c_MD_judge  hw) (em_cwV C 1 mw_547 mw_548 mw_59 mw_71 mw_549 rfl rfl (by decide +kernel) (by decide)) em_nc_MD em_sh_MD rfl rfl rfl (Nat.le_of_ble_eq_true rfl) d_MD_step_202 (by decide) (fun M_21 hw => ?_)
                  refine g_iconst (v := (-1 : Int32)) C d_MD_step_205 (by decide) ?_
                  exact g_iret C hQ rfl d_MD_step_206 hw
                · have hw := hw.2 hc_20
                  refine g_aload_n C 1 0 d_MD_step_192 rfl rfl ?_
                  refine g_iload_n C 3 2 d_MD_step_193 rfl rfl ?_
                  refine g_callVv C 52 rfl [.int r_7] [] (c_MD_jumpAll  hw) (em_cwV C 1 mw_541 mw_542 mw_57 mw_71 mw_543 rfl rfl (by decide +kernel) (by decide)) em_nc_MD em_sh_MD rfl rfl rfl (Nat.le_of_ble_eq_true rfl) d_MD_step_194 (by decide) (fun M_22 hw => ?_)
                  refine g_goto (tgt := 205) C d_MD_step_197 (by decide) ?_
                  refine g_iconst (v := (-1 : Int32)) C d_MD_step_205 (by decide) ?_
                  exact g_iret C hQ rfl d_MD_step_206 hw
              · have hw := hw.2 hc_19
                refine g_aload_n C 1 0 d_MD_step_157 rfl rfl ?_
                refine g_iload_n C 4 3 d_MD_step_158 rfl rfl ?_
                refine g_if_ge (tgt := 171) C d_MD_step_159 (by decide) (fun hc_23 => ?_) (fun hc_23 => ?_)
                · have hw := hw.1 hc_23
                  refine g_aload_n C 1 0 d_MD_step_171 rfl rfl ?_
                  refine g_geti C 52 18 rfl d_MD_step_172 em_nc_MD em_sh_MD rfl (by decide) rfl in_MD mw_417 rfl ?_
                  refine g_puti C 52 18 rfl ty_MD tyok_MD nm_MD d_MD_step_175 em_nc_MD em_sh_MD rfl (by decide) rfl in_MD mw_417 rfl rfl rfl rfl rfl ?_
                  refine g_nameM (fun M_24 eM_24 => ?_)
                  have hw := hw M_24 eM_24
                  refine g_aload_n C 1 0 d_MD_step_178 rfl rfl ?_
                  refine g_iload C 0 d_MD_step_179 rfl ?_
                  refine g_callVv C 52 rfl [.int z_18] [] (c_MD_jumpAll  hw) (em_cwV C 1 mw_541 mw_542 mw_57 mw_71 mw_543 rfl rfl (by decide +kernel) (by decide)) em_nc_MD em_sh_MD rfl rfl rfl (Nat.le_of_ble_eq_true rfl) d_MD_step_181 (by decide) (fun M_25 hw => ?_)
                  refine g_goto (tgt := 205) C d_MD_step_184 (by decide) ?_
                  refine g_iconst (v := (-1 : Int32)) C d_MD_step_205 (by decide) ?_
                  exact g_iret C hQ rfl d_MD_step_206 hw
                · have hw := hw.2 hc_23
                  refine g_aload_n C 1 0 d_MD_step_162 rfl rfl ?_
                  refine g_geti C 52 18 rfl d_MD_step_163 em_nc_MD em_sh_MD rfl (by decide) rfl in_MD mw_417 rfl ?_
                  refine g_iconst (v := (nI 1)) C d_MD_step_166 (by decide) ?_
                  refine g_iadd C d_MD_step_167 ?_
                  refine g_goto (tgt := 175) C d_MD_step_168 (by decide) ?_
                  refine g_puti C 52 18 rfl ty_MD tyok_MD nm_MD d_MD_step_175 em_nc_MD em_sh_MD rfl (by decide) rfl in_MD mw_417 rfl rfl rfl rfl rfl ?_
                  refine g_nameM (fun M_26 eM_26 => ?_)
                  have hw := hw M_26 eM_26
                  refine g_aload_n C 1 0 d_MD_step_178 rfl rfl ?_
                  refine g_iload C 0 d_MD_step_179 rfl ?_
                  refine g_callVv C 52 rfl [.int z_18] [] (c_MD_jumpAll  hw) (em_cwV C 1 mw_541 mw_542 mw_57 mw_71 mw_543 rfl rfl (by decide +kernel) (by decide)) em_nc_MD em_sh_MD rfl rfl rfl (Nat.le_of_ble_eq_true rfl) d_MD_step_181 (by decide) (fun M_27 hw => ?_)
                  refine g_goto (tgt := 205) C d_MD_step_184 (by decide) ?_
                  refine g_iconst (v := (-1 : Int32)) C d_MD_step_205 (by decide) ?_
                  exact g_iret C hQ rfl d_MD_step_206 hw
            refine g_if_ge (tgt := 149) C d_MD_step_137 (by decide) (fun hc_28 => ?_) (fun hc_28 => ?_)
            · have hw := hw.1 hc_28
              refine g_iload_n C 3 3 d_MD_step_149 rfl rfl ?_
              refine g_sub [0, 1, 2, 3, 4, 5] rfl ?_
              exact j_14 x3_10 hw
            · have hw := hw.2 hc_28
              refine g_aload_n C 0 0 d_MD_step_140 rfl rfl ?_
              refine g_iload_n C 2 2 d_MD_step_141 rfl rfl ?_
              refine g_iload_n C 1 1 d_MD_step_142 rfl rfl ?_
              refine g_callVi C 52 rfl [.int r_7, .int r_5] [] (c_MD_skipTo  hw) (em_cwV C 2 mw_532 mw_533 mw_54 mw_71 mw_534 rfl rfl (by decide +kernel) (by decide)) em_nc_MD em_sh_MD rfl rfl rfl (Nat.le_of_ble_eq_true rfl) d_MD_step_143 (by decide) (fun r_30 M_29 hw => ?_)
              obtain ⟨rfl, hw⟩ := hw
              refine g_goto (tgt := 150) C d_MD_step_146 (by decide) ?_
              refine g_sub [0, 1, 2, 3, 4, 5] rfl ?_
              exact j_14 r_30 hw
          · have hw := hw.2 hc_13
            refine g_aload_n C 0 0 d_MD_step_44 rfl rfl ?_
            refine g_iload C 5 d_MD_step_45 rfl ?_
            refine g_callVi C 52 rfl [.int x5_12] [] (c_MD_isLine  hw) (em_cwV C 1 mw_523 mw_524 mw_51 mw_71 mw_525 rfl rfl (by decide +kernel) (by decide)) em_nc_MD em_sh_MD rfl rfl rfl (Nat.le_of_ble_eq_true rfl) d_MD_step_47 (by decide) (fun r_32 M_31 hw => ?_)
            obtain ⟨rfl, hw⟩ := hw
            obtain ⟨J_33, hJ_33, hw⟩ := em_jn1 hw
            have j_33 : ∀ (z_39 : Int32) , J_33 z_39 → em_G X D b0 cT ad 6 (SH ad) NC 0 0 M 97 [(0, .ref (ad (52))), (1, .int r_5), (2, .int r_7), (3, .int x3_10), (4, .int x4_11), (5, .int x5_12)] [.int z_39] := by
              intro z_39 hw
              have hw := hJ_33 z_39 hw
              refine g_istore_n (lv' := [(3, .int z_39), (0, .ref (ad (52))), (1, .int r_5), (2, .int r_7), (4, .int x4_11), (5, .int x5_12)]) C 3 d_MD_step_97 rfl (by decide) rfl ?_
              refine g_iload C 4 d_MD_step_98 rfl ?_
              obtain ⟨J_40, hJ_40, hw⟩ := em_jn1 hw
              have j_40 : ∀ (z_47 : Int32) , J_40 z_47 → em_G X D b0 cT ad 6 (SH ad) NC 0 0 M 128 [(0, .ref (ad (52))), (1, .int r_5), (2, .int r_7), (3, .int z_39), (4, .int x4_11), (5, .int x5_12)] [.int z_47] := by
                intro z_47 hw
                have hw := hJ_40 z_47 hw
                refine g_istore (lv' := [(4, .int z_47), (0, .ref (ad (52))), (1, .int r_5), (2, .int r_7), (3, .int z_39), (5, .int x5_12)]) C d_MD_step_128 (by decide) rfl ?_
                obtain ⟨x5_48, ex5_48⟩ : ∃ y : Int32, y = x5_12 + nI 1 := ⟨_, rfl⟩
                have hw := hw x5_48 ex5_48
                refine g_iinc (v := x5_48) (lv' := [(5, .int x5_48), (4, .int z_47), (0, .ref (ad (52))), (1, .int r_5), (2, .int r_7), (3, .int z_39)]) C 5 d_MD_step_130 rfl (by rw [ex5_48]; first | rfl | (congr 1)) (by decide) rfl ?_
                refine g_goto (tgt := 37) C d_MD_step_133 (by decide) ?_
                refine g_sub [2, 3, 4, 5, 1, 0] rfl ?_
                exact ih_9 z_39 z_47 x5_48 (Nat.lt_of_lt_of_le hw.2 (Nat.le_of_lt_succ hn_9)) hw.1
              obtain ⟨J_49, hJ_49, hw⟩ := em_jn0 hw
              have j_49 : J_49 → em_G X D b0 cT ad 6 (SH ad) NC 0 0 M 123 [(0, .ref (ad (52))), (1, .int r_5), (2, .int r_7), (3, .int z_39), (4, .int x4_11), (5, .int x5_12)] [] := by
                intro  hw
                have hw := hJ_49  hw
                refine g_iconst (v := (nI 1)) C d_MD_step_123 (by decide) ?_
                refine g_goto (tgt := 128) C d_MD_step_124 (by decide) ?_
                refine g_sub [0, 1, 2, 3, 4, 5] rfl ?_
                exact j_40 (nI 1) hw
              refine g_if_ne (tgt := 123) C d_MD_step_100 (by decide) (fun hc_56 => ?_) (fun hc_56 => ?_)
              · have hw := hw.1 hc_56
                refine g_sub [1, 2, 3, 0, 4, 5] rfl ?_
                exact j_49  hw
              · have hw := hw.2 hc_56
                refine g_aload_n C 1 0 d_MD_step_103 rfl rfl ?_
                refine g_iload C 5 d_MD_step_104 rfl ?_
                refine g_callVi C 52 rfl [.int x5_12] [] (c_MD_isLine  hw) (em_cwV C 1 mw_523 mw_524 mw_51 mw_71 mw_525 rfl rfl (by decide +kernel) (by decide)) em_nc_MD em_sh_MD rfl rfl rfl (Nat.le_of_ble_eq_true rfl) d_MD_step_106 (by decide) (fun r_58 M_57 hw => ?_)
                obtain ⟨rfl, hw⟩ := hw
                obtain ⟨J_59, hJ_59, hw⟩ := em_jn0 hw
                have j_59 : J_59 → em_G X D b0 cT ad 6 (SH ad) NC 0 0 M 127 [(0, .ref (ad (52))), (1, .int r_5), (2, .int r_7), (3, .int z_39), (4, .int x4_11), (5, .int x5_12)] [] := by
                  intro  hw
                  have hw := hJ_59  hw
                  refine g_iconst (v := (nI 0)) C d_MD_step_127 (by decide) ?_
                  refine g_sub [0, 1, 2, 3, 4, 5] rfl ?_
                  exact j_40 (nI 0) hw
                refine g_if_eq (tgt := 127) C d_MD_step_109 (by decide) (fun hc_63 => ?_) (fun hc_63 => ?_)
                · have hw := hw.1 hc_63
                  refine g_sub [1, 2, 3, 0, 4, 5] rfl ?_
                  exact j_59  hw
                · have hw := hw.2 hc_63
                  refine g_aload_n C 1 0 d_MD_step_112 rfl rfl ?_
                  refine g_getr C 52 15 rfl d_MD_step_113 em_nc_MD em_sh_MD rfl (by decide) rfl in_MD mw_414 rfl ?_
                  refine g_iload C 5 d_MD_step_116 rfl ?_
                  obtain ⟨hb_64, hw⟩ := hw
                  refine g_iald C 61 rfl d_MD_step_118 em_nc_mLine em_sh_mLine rfl hb_64 ?_
                  refine g_iload_n C 3 2 d_MD_step_119 rfl rfl ?_
                  refine g_icmp_ge (tgt := 127) C d_MD_step_120 (by decide) (fun hc_65 => ?_) (fun hc_65 => ?_)
                  · have hw := hw.1 hc_65
                    refine g_sub [1, 2, 3, 0, 4, 5] rfl ?_
                    exact j_59  hw
                  · have hw := hw.2 hc_65
                    refine g_sub [1, 2, 3, 0, 4, 5] rfl ?_
                    exact j_49  hw
            obtain ⟨J_66, hJ_66, hw⟩ := em_jn0 hw
            have j_66 : J_66 → em_G X D b0 cT ad 6 (SH ad) NC 0 0 M 96 [(0, .ref (ad (52))), (1, .int r_5), (2, .int r_7), (3, .int x3_10), (4, .int x4_11), (5, .int x5_12)] [] := by
              intro  hw
              have hw := hJ_66  hw
              refine g_iload_n C 3 3 d_MD_step_96 rfl rfl ?_
              refine g_sub [0, 1, 2, 3, 4, 5] rfl ?_
              exact j_33 x3_10 hw
            refine g_if_eq (tgt := 96) C d_MD_step_50 (by decide) (fun hc_72 => ?_) (fun hc_72 => ?_)
            · have hw := hw.1 hc_72
              refine g_sub [0, 1, 2, 3, 4, 5] rfl ?_
              exact j_66  hw
            · have hw := hw.2 hc_72
              refine g_aload_n C 0 0 d_MD_step_53 rfl rfl ?_
              refine g_getr C 52 3 rfl d_MD_step_54 em_nc_MD em_sh_MD rfl (by decide) rfl in_MD mw_402 rfl ?_
              refine g_iload C 5 d_MD_step_57 rfl ?_
              obtain ⟨hb_73, hw⟩ := hw
              refine g_iald C 55 rfl d_MD_step_59 em_nc_mHow em_sh_mHow rfl hb_73 ?_
              refine g_iconst (v := (nI 2)) C d_MD_step_60 (by decide) ?_
              refine g_icmp_ne (tgt := 96) C d_MD_step_61 (by decide) (fun hc_74 => ?_) (fun hc_74 => ?_)
              · have hw := hw.1 hc_74
                refine g_sub [0, 1, 2, 3, 4, 5] rfl ?_
                exact j_66  hw
              · have hw := hw.2 hc_74
                refine g_aload_n C 0 0 d_MD_step_64 rfl rfl ?_
                refine g_getr C 52 15 rfl d_MD_step_65 em_nc_MD em_sh_MD rfl (by decide) rfl in_MD mw_414 rfl ?_
                refine g_iload C 5 d_MD_step_68 rfl ?_
                refine g_iald C 61 rfl d_MD_step_70 em_nc_mLine em_sh_mLine rfl hb_73 ?_
                refine g_iload_n C 2 2 d_MD_step_71 rfl rfl ?_
                refine g_icmp_le (tgt := 96) C d_MD_step_72 (by decide) (fun hc_75 => ?_) (fun hc_75 => ?_)
                · have hw := hw.1 hc_75
                  refine g_sub [0, 1, 2, 3, 4, 5] rfl ?_
                  exact j_66  hw
                · have hw := hw.2 hc_75
                  refine g_aload_n C 0 0 d_MD_step_75 rfl rfl ?_
                  refine g_getr C 52 15 rfl d_MD_step_76 em_nc_MD em_sh_MD rfl (by decide) rfl in_MD mw_414 rfl ?_
                  refine g_iload C 5 d_MD_step_79 rfl ?_
                  refine g_iald C 61 rfl d_MD_step_81 em_nc_mLine em_sh_mLine rfl hb_73 ?_
                  refine g_iload_n C 3 3 d_MD_step_82 rfl rfl ?_
                  refine g_icmp_le (tgt := 96) C d_MD_step_83 (by decide) (fun hc_76 => ?_) (fun hc_76 => ?_)
                  · have hw := hw.1 hc_76
                    refine g_sub [0, 1, 2, 3, 4, 5] rfl ?_
                    exact j_66  hw
                  · have hw := hw.2 hc_76
                    refine g_aload_n C 0 0 d_MD_step_86 rfl rfl ?_
                    refine g_getr C 52 15 rfl d_MD_step_87 em_nc_MD em_sh_MD rfl (by decide) rfl in_MD mw_414 rfl ?_
                    refine g_iload C 5 d_MD_step_90 rfl ?_
                    refine g_iald C 61 rfl d_MD_step_92 em_nc_mLine em_sh_mLine rfl hb_73 ?_
                    refine g_goto (tgt := 97) C d_MD_step_93 (by decide) ?_
                    refine g_sub [0, 1, 2, 3, 4, 5] rfl ?_
                    exact j_33 (M (61) x5_12.toNatClampNeg) hw
      exact lp_9 _ (-1 : Int32) (nI 0) (nI 0) (Nat.lt_succ_self _) h0
    · have hw := hw.2 hc_8
      refine g_iconst (v := (nI 1)) C d_MD_step_27 (by decide) ?_
      exact g_iret C hQ rfl d_MD_step_28 hw
  · have hw := hw.2 hc_3
    refine g_iconst (v := (nI 0)) C d_MD_step_7 (by decide) ?_
    exact g_iret C hQ rfl d_MD_step_8 hw
theorem c_MD_step {l : Launch} {D : va_G} {b0 : Nat} {cT : Nat → ClassId} {ad : Nat → Nat} {post : Int32 → em_M → Prop}  {M : em_M}  (hw : wp_MD_step post  M) : Met l y_MD_step (.code y_MD_step b_MD_step 6 (some .int) :: wAll) rm_MD_step (va_Pc [.ref (ad (52))] (em_U D b0 cT ad (SH ad) NC M)) (va_Qi post (em_U D b0 cT ad (SH ad) NC) (em_A b0)) 0 0 (em_A b0) :=
  em_met (by decide) rfl (Nat.le_of_ble_eq_true rfl) (fun X C _ _ hQ => v_MD_step  C hQ hw)
set_option maxHeartbeats 4000000 in
set_option maxRecDepth 100000 in
theorem v_MD_walk {X : em_X} {D : va_G} {b0 : Nat} {cT : Nat → ClassId} {ad : Nat → Nat} {post : Int32 → em_M → Prop} {x1 : Int32} {M : em_M}  (C : em_Cx X D b0 cT R_MD b_MD_walk (some .int) 3 rm_MD_walk) (hQ : xQ X = MQ (xB X) (va_Qi post (em_U D b0 cT ad (SH ad) NC) (em_A b0)) (xA X) (xS X) 0 0 (em_A b0)) (hw : wp_MD_walk post x1 M) : em_G X D b0 cT ad 3 (SH ad) NC 0 0 M 0 [(0, .ref (ad (52))), (1, .int x1)] [] := by
  unfold wp_MD_walk at hw
  refine g_aload_n C 0 0 d_MD_walk_0 rfl rfl ?_
  refine g_iconst (v := (nI 0)) C d_MD_walk_1 (by decide) ?_
  refine g_puti C 52 0 rfl ty_MD tyok_MD nm_MD d_MD_walk_2 em_nc_MD em_sh_MD rfl (by decide) rfl in_MD mw_399 rfl rfl rfl rfl rfl ?_
  refine g_nameM (fun M_1 eM_1 => ?_)
  have hw := hw M_1 eM_1
  refine g_iload_n C 1 1 d_MD_walk_5 rfl rfl ?_
  refine g_iconst (v := (nI 1)) C d_MD_walk_6 (by decide) ?_
  refine g_sipush (v := (nI 10000)) C d_MD_walk_7 (by decide) ?_
  refine g_callSi C [.int x1, .int (nI 1), .int (nI 10000)] [] (c_MD_in  hw) (em_cwS C 3 mw_453 mw_454 mw_71 mw_455 rfl rfl (by decide +kernel) (by decide)) rfl rfl (Nat.le_of_ble_eq_true rfl) d_MD_walk_10 (by decide) (fun r_3 M_2 hw => ?_)
  obtain ⟨rfl, hw⟩ := hw
  refine g_if_ne (tgt := 18) C d_MD_walk_13 (by decide) (fun hc_4 => ?_) (fun hc_4 => ?_)
  · have hw := hw.1 hc_4
    refine g_aload_n C 0 0 d_MD_walk_18 rfl rfl ?_
    refine g_iconst (v := (nI 0)) C d_MD_walk_19 (by decide) ?_
    refine g_puti C 52 8 rfl ty_MD tyok_MD nm_MD d_MD_walk_20 em_nc_MD em_sh_MD rfl (by decide) rfl in_MD mw_407 rfl rfl rfl rfl rfl ?_
    refine g_nameM (fun M_5 eM_5 => ?_)
    have hw := hw M_5 eM_5
    refine g_aload_n C 0 0 d_MD_walk_23 rfl rfl ?_
    refine g_iconst (v := (nI 0)) C d_MD_walk_24 (by decide) ?_
    refine g_puti C 52 9 rfl ty_MD tyok_MD nm_MD d_MD_walk_25 em_nc_MD em_sh_MD rfl (by decide) rfl in_MD mw_408 rfl rfl rfl rfl rfl ?_
    refine g_nameM (fun M_6 eM_6 => ?_)
    have hw := hw M_6 eM_6
    refine g_aload_n C 0 0 d_MD_walk_28 rfl rfl ?_
    refine g_iconst (v := (nI 1)) C d_MD_walk_29 (by decide) ?_
    refine g_puti C 52 10 rfl ty_MD tyok_MD nm_MD d_MD_walk_30 em_nc_MD em_sh_MD rfl (by decide) rfl in_MD mw_409 rfl rfl rfl rfl rfl ?_
    refine g_nameM (fun M_7 eM_7 => ?_)
    have hw := hw M_7 eM_7
    refine g_aload_n C 0 0 d_MD_walk_33 rfl rfl ?_
    refine g_iconst (v := (nI 0)) C d_MD_walk_34 (by decide) ?_
    refine g_puti C 52 16 rfl ty_MD tyok_MD nm_MD d_MD_walk_35 em_nc_MD em_sh_MD rfl (by decide) rfl in_MD mw_415 rfl rfl rfl rfl rfl ?_
    refine g_nameM (fun M_8 eM_8 => ?_)
    have hw := hw M_8 eM_8
    refine g_aload_n C 0 0 d_MD_walk_38 rfl rfl ?_
    refine g_iconst (v := (nI 0)) C d_MD_walk_39 (by decide) ?_
    refine g_puti C 52 17 rfl ty_MD tyok_MD nm_MD d_MD_walk_40 em_nc_MD em_sh_MD rfl (by decide) rfl in_MD mw_416 rfl rfl rfl rfl rfl ?_
    refine g_nameM (fun M_9 eM_9 => ?_)
    have hw := hw M_9 eM_9
    refine g_aload_n C 0 0 d_MD_walk_43 rfl rfl ?_
    refine g_iconst (v := (nI 0)) C d_MD_walk_44 (by decide) ?_
    refine g_puti C 52 18 rfl ty_MD tyok_MD nm_MD d_MD_walk_45 em_nc_MD em_sh_MD rfl (by decide) rfl in_MD mw_417 rfl rfl rfl rfl rfl ?_
    refine g_nameM (fun M_10 eM_10 => ?_)
    have hw := hw M_10 eM_10
    refine g_aload_n C 0 0 d_MD_walk_48 rfl rfl ?_
    refine g_iconst (v := (nI 0)) C d_MD_walk_49 (by decide) ?_
    refine g_puti C 52 19 rfl ty_MD tyok_MD nm_MD d_MD_walk_50 em_nc_MD em_sh_MD rfl (by decide) rfl in_MD mw_418 rfl rfl rfl rfl rfl ?_
    refine g_nameM (fun M_11 eM_11 => ?_)
    have hw := hw M_11 eM_11
    refine g_aload_n C 0 0 d_MD_walk_53 rfl rfl ?_
    refine g_iconst (v := (-1 : Int32)) C d_MD_walk_54 (by decide) ?_
    refine g_puti C 52 20 rfl ty_MD tyok_MD nm_MD d_MD_walk_55 em_nc_MD em_sh_MD rfl (by decide) rfl in_MD mw_419 rfl rfl rfl rfl rfl ?_
    refine g_nameM (fun M_12 eM_12 => ?_)
    have hw := hw M_12 eM_12
    refine g_iconst (v := (nI 0)) C d_MD_walk_58 (by decide) ?_
    refine g_istore_n (lv' := [(2, .int (nI 0)), (0, .ref (ad (52))), (1, .int x1)]) C 2 d_MD_walk_59 rfl (by decide) rfl ?_
    obtain ⟨I_13, mu_13, h0, hw⟩ := hw
    refine g_sub [1, 2, 0] rfl ?_
    have lp_13 : ∀ (n_13 : Nat) (x2_14 : Int32) (M_15 : em_M) , mu_13 x2_14 M_15 < n_13 → I_13 x2_14 M_15 → em_G X D b0 cT ad 3 (SH ad) NC 0 0 M_15 60 [(0, .ref (ad (52))), (1, .int x1), (2, .int x2_14)] [] := by
      intro n_13
      induction n_13 with
      | zero => intro x2_14 M_15 h; exact absurd h (Nat.not_lt_zero _)
      | succ n_13 ih_13 =>
        intro x2_14 M_15 hn_13 hi
        have hw := hw x2_14 M_15 hi
        refine g_iload_n C 2 2 d_MD_walk_60 rfl rfl ?_
        refine g_bipush (v := (nI 12)) C d_MD_walk_61 (by decide) ?_
        refine g_icmp_ge (tgt := 84) C d_MD_walk_63 (by decide) (fun hc_16 => ?_) (fun hc_16 => ?_)
        · have hw := hw.1 hc_16
          obtain ⟨I_17, mu_17, h0, hw⟩ := hw
          refine g_sub [0, 1, 2] rfl ?_
          have lp_17 : ∀ (n_17 : Nat) (M_18 : em_M) , mu_17 M_18 < n_17 → I_17 M_18 → em_G X D b0 cT ad 3 (SH ad) NC 0 0 M_18 84 [(0, .ref (ad (52))), (1, .int x1), (2, .int x2_14)] [] := by
            intro n_17
            induction n_17 with
            | zero => intro M_18 h; exact absurd h (Nat.not_lt_zero _)
            | succ n_17 ih_17 =>
              intro M_18 hn_17 hi
              have hw := hw M_18 hi
              refine g_aload_n C 0 0 d_MD_walk_84 rfl rfl ?_
              refine g_geti C 52 16 rfl d_MD_walk_85 em_nc_MD em_sh_MD rfl (by decide) rfl in_MD mw_415 rfl ?_
              refine g_iload_n C 1 1 d_MD_walk_88 rfl rfl ?_
              obtain ⟨J_19, hJ_19, hw⟩ := em_jn0 hw
              have j_19 : J_19 → em_G X D b0 cT ad 3 (SH ad) NC 0 0 M_18 120 [(0, .ref (ad (52))), (1, .int x1), (2, .int x2_14)] [] := by
                intro  hw
                have hw := hJ_19  hw
                refine g_aload_n C 0 0 d_MD_walk_120 rfl rfl ?_
                refine g_aload_n C 0 0 d_MD_walk_121 rfl rfl ?_
                refine g_geti C 52 20 rfl d_MD_walk_122 em_nc_MD em_sh_MD rfl (by decide) rfl in_MD mw_419 rfl ?_
                obtain ⟨J_26, hJ_26, hw⟩ := em_jn1 hw
                have j_26 : ∀ (z_28 : Int32) , J_26 z_28 → em_G X D b0 cT ad 3 (SH ad) NC 0 0 M_18 136 [(0, .ref (ad (52))), (1, .int x1), (2, .int x2_14)] [.int z_28, .ref (ad (52))] := by
                  intro z_28 hw
                  have hw := hJ_26 z_28 hw
                  refine g_puti C 52 20 rfl ty_MD tyok_MD nm_MD d_MD_walk_136 em_nc_MD em_sh_MD rfl (by decide) rfl in_MD mw_419 rfl rfl rfl rfl rfl ?_
                  refine g_nameM (fun M_29 eM_29 => ?_)
                  have hw := hw M_29 eM_29
                  refine g_aload_n C 0 0 d_MD_walk_139 rfl rfl ?_
                  refine g_aload_n C 0 0 d_MD_walk_140 rfl rfl ?_
                  refine g_callVi C 52 rfl [] [.ref (ad (52))] (c_MD_floor  hw) (em_cwV C 0 mw_526 mw_527 mw_52 mw_71 mw_528 rfl rfl (by decide +kernel) (by decide)) em_nc_MD em_sh_MD rfl rfl rfl (Nat.le_of_ble_eq_true rfl) d_MD_walk_141 (by decide) (fun r_31 M_30 hw => ?_)
                  obtain ⟨rfl, hw⟩ := hw
                  refine g_puti C 52 21 rfl ty_MD tyok_MD nm_MD d_MD_walk_144 em_nc_MD em_sh_MD rfl (by decide) rfl in_MD mw_420 rfl rfl rfl rfl rfl ?_
                  refine g_nameM (fun M_32 eM_32 => ?_)
                  have hw := hw M_32 eM_32
                  refine g_aload_n C 0 0 d_MD_walk_147 rfl rfl ?_
                  refine g_sipush (v := (nI 512)) C d_MD_walk_148 (by decide) ?_
                  refine g_puti C 52 22 rfl ty_MD tyok_MD nm_MD d_MD_walk_151 em_nc_MD em_sh_MD rfl (by decide) rfl in_MD mw_421 rfl rfl rfl rfl rfl ?_
                  refine g_nameM (fun M_33 eM_33 => ?_)
                  have hw := hw M_33 eM_33
                  refine g_iconst (v := (nI 0)) C d_MD_walk_154 (by decide) ?_
                  refine g_istore_n (lv' := [(2, .int (nI 0)), (0, .ref (ad (52))), (1, .int x1)]) C 2 d_MD_walk_155 rfl (by decide) rfl ?_
                  obtain ⟨I_34, mu_34, h0, hw⟩ := hw
                  refine g_sub [1, 2, 0] rfl ?_
                  have lp_34 : ∀ (n_34 : Nat) (x2_35 : Int32) (M_36 : em_M) , mu_34 x2_35 M_36 < n_34 → I_34 x2_35 M_36 → em_G X D b0 cT ad 3 (SH ad) NC 0 0 M_36 156 [(0, .ref (ad (52))), (1, .int x1), (2, .int x2_35)] [] := by
                    intro n_34
                    induction n_34 with
                    | zero => intro x2_35 M_36 h; exact absurd h (Nat.not_lt_zero _)
                    | succ n_34 ih_34 =>
                      intro x2_35 M_36 hn_34 hi
                      have hw := hw x2_35 M_36 hi
                      refine g_iload_n C 2 2 d_MD_walk_156 rfl rfl ?_
                      refine g_bipush (v := (nI 12)) C d_MD_walk_157 (by decide) ?_
                      refine g_icmp_ge (tgt := 206) C d_MD_walk_159 (by decide) (fun hc_37 => ?_) (fun hc_37 => ?_)
                      · have hw := hw.1 hc_37
                        refine g_aload_n C 0 0 d_MD_walk_206 rfl rfl ?_
                        refine g_geti C 52 8 rfl d_MD_walk_207 em_nc_MD em_sh_MD rfl (by decide) rfl in_MD mw_407 rfl ?_
                        exact g_iret C hQ rfl d_MD_walk_210 hw
                      · have hw := hw.2 hc_37
                        refine g_aload_n C 0 0 d_MD_walk_162 rfl rfl ?_
                        refine g_aload_n C 0 0 d_MD_walk_163 rfl rfl ?_
                        refine g_iload_n C 2 2 d_MD_walk_164 rfl rfl ?_
                        refine g_callVi C 52 rfl [.int x2_35] [.ref (ad (52))] (c_MD_isLine  hw) (em_cwV C 1 mw_523 mw_524 mw_51 mw_71 mw_525 rfl rfl (by decide +kernel) (by decide)) em_nc_MD em_sh_MD rfl rfl rfl (Nat.le_of_ble_eq_true rfl) d_MD_walk_165 (by decide) (fun r_39 M_38 hw => ?_)
                        obtain ⟨rfl, hw⟩ := hw
                        obtain ⟨J_40, hJ_40, hw⟩ := em_jn1 hw
                        have j_40 : ∀ (z_44 : Int32) , J_40 z_44 → em_G X D b0 cT ad 3 (SH ad) NC 0 0 M_36 197 [(0, .ref (ad (52))), (1, .int x1), (2, .int x2_35)] [.int z_44, .ref (ad (52))] := by
                          intro z_44 hw
                          have hw := hJ_40 z_44 hw
                          refine g_puti C 52 22 rfl ty_MD tyok_MD nm_MD d_MD_walk_197 em_nc_MD em_sh_MD rfl (by decide) rfl in_MD mw_421 rfl rfl rfl rfl rfl ?_
                          refine g_nameM (fun M_45 eM_45 => ?_)
                          have hw := hw M_45 eM_45
                          obtain ⟨x2_46, ex2_46⟩ : ∃ y : Int32, y = x2_35 + nI 1 := ⟨_, rfl⟩
                          have hw := hw x2_46 ex2_46
                          refine g_iinc (v := x2_46) (lv' := [(2, .int x2_46), (0, .ref (ad (52))), (1, .int x1)]) C 2 d_MD_walk_200 rfl (by rw [ex2_46]; first | rfl | (congr 1)) (by decide) rfl ?_
                          refine g_goto (tgt := 156) C d_MD_walk_203 (by decide) ?_
                          refine g_sub [1, 2, 0] rfl ?_
                          exact ih_34 x2_46 M_45 (Nat.lt_of_lt_of_le hw.2 (Nat.le_of_lt_succ hn_34)) hw.1
                        obtain ⟨J_47, hJ_47, hw⟩ := em_jn0 hw
                        have j_47 : J_47 → em_G X D b0 cT ad 3 (SH ad) NC 0 0 M_36 193 [(0, .ref (ad (52))), (1, .int x1), (2, .int x2_35)] [.ref (ad (52))] := by
                          intro  hw
                          have hw := hJ_47  hw
                          refine g_aload_n C 0 0 d_MD_walk_193 rfl rfl ?_
                          refine g_geti C 52 22 rfl d_MD_walk_194 em_nc_MD em_sh_MD rfl (by decide) rfl in_MD mw_421 rfl ?_
                          refine g_sub [0, 1, 2] rfl ?_
                          exact j_40 (M_36 (52) 22) hw
                        refine g_if_eq (tgt := 193) C d_MD_walk_168 (by decide) (fun hc_51 => ?_) (fun hc_51 => ?_)
                        · have hw := hw.1 hc_51
                          refine g_sub [0, 1, 2] rfl ?_
                          exact j_47  hw
                        · have hw := hw.2 hc_51
                          refine g_aload_n C 0 0 d_MD_walk_171 rfl rfl ?_
                          refine g_getr C 52 15 rfl d_MD_walk_172 em_nc_MD em_sh_MD rfl (by decide) rfl in_MD mw_414 rfl ?_
                          refine g_iload_n C 2 2 d_MD_walk_175 rfl rfl ?_
                          obtain ⟨hb_52, hw⟩ := hw
                          refine g_iald C 61 rfl d_MD_walk_176 em_nc_mLine em_sh_mLine rfl hb_52 ?_
                          refine g_aload_n C 0 0 d_MD_walk_177 rfl rfl ?_
                          refine g_geti C 52 22 rfl d_MD_walk_178 em_nc_MD em_sh_MD rfl (by decide) rfl in_MD mw_421 rfl ?_
                          refine g_icmp_ge (tgt := 193) C d_MD_walk_181 (by decide) (fun hc_53 => ?_) (fun hc_53 => ?_)
                          · have hw := hw.1 hc_53
                            refine g_sub [0, 1, 2] rfl ?_
                            exact j_47  hw
                          · have hw := hw.2 hc_53
                            refine g_aload_n C 0 0 d_MD_walk_184 rfl rfl ?_
                            refine g_getr C 52 15 rfl d_MD_walk_185 em_nc_MD em_sh_MD rfl (by decide) rfl in_MD mw_414 rfl ?_
                            refine g_iload_n C 2 2 d_MD_walk_188 rfl rfl ?_
                            refine g_iald C 61 rfl d_MD_walk_189 em_nc_mLine em_sh_mLine rfl hb_52 ?_
                            refine g_goto (tgt := 197) C d_MD_walk_190 (by decide) ?_
                            refine g_sub [0, 1, 2] rfl ?_
                            exact j_40 (M_36 (61) x2_35.toNatClampNeg) hw
                  exact lp_34 _ (nI 0) M_33 (Nat.lt_succ_self _) h0
                refine g_if_ge (tgt := 132) C d_MD_walk_125 (by decide) (fun hc_54 => ?_) (fun hc_54 => ?_)
                · have hw := hw.1 hc_54
                  refine g_aload_n C 0 0 d_MD_walk_132 rfl rfl ?_
                  refine g_geti C 52 20 rfl d_MD_walk_133 em_nc_MD em_sh_MD rfl (by decide) rfl in_MD mw_419 rfl ?_
                  refine g_sub [0, 1, 2] rfl ?_
                  exact j_26 (M_18 (52) 20) hw
                · have hw := hw.2 hc_54
                  refine g_iconst (v := (nI 2)) C d_MD_walk_128 (by decide) ?_
                  refine g_goto (tgt := 136) C d_MD_walk_129 (by decide) ?_
                  refine g_sub [0, 1, 2] rfl ?_
                  exact j_26 (nI 2) hw
              refine g_icmp_ge (tgt := 120) C d_MD_walk_89 (by decide) (fun hc_55 => ?_) (fun hc_55 => ?_)
              · have hw := hw.1 hc_55
                refine g_sub [0, 1, 2] rfl ?_
                exact j_19  hw
              · have hw := hw.2 hc_55
                refine g_aload_n C 0 0 d_MD_walk_92 rfl rfl ?_
                refine g_geti C 52 20 rfl d_MD_walk_93 em_nc_MD em_sh_MD rfl (by decide) rfl in_MD mw_419 rfl ?_
                refine g_if_ge (tgt := 120) C d_MD_walk_96 (by decide) (fun hc_56 => ?_) (fun hc_56 => ?_)
                · have hw := hw.1 hc_56
                  refine g_sub [0, 1, 2] rfl ?_
                  exact j_19  hw
                · have hw := hw.2 hc_56
                  refine g_aload_n C 0 0 d_MD_walk_99 rfl rfl ?_
                  refine g_dup C d_MD_walk_100 rfl ?_
                  refine g_geti C 52 16 rfl d_MD_walk_101 em_nc_MD em_sh_MD rfl (by decide) rfl in_MD mw_415 rfl ?_
                  refine g_iconst (v := (nI 1)) C d_MD_walk_104 (by decide) ?_
                  refine g_iadd C d_MD_walk_105 ?_
                  refine g_puti C 52 16 rfl ty_MD tyok_MD nm_MD d_MD_walk_106 em_nc_MD em_sh_MD rfl (by decide) rfl in_MD mw_415 rfl rfl rfl rfl rfl ?_
                  refine g_nameM (fun M_57 eM_57 => ?_)
                  have hw := hw M_57 eM_57
                  refine g_aload_n C 0 0 d_MD_walk_109 rfl rfl ?_
                  refine g_aload_n C 0 0 d_MD_walk_110 rfl rfl ?_
                  refine g_callVi C 52 rfl [] [.ref (ad (52))] (c_MD_step  hw) (em_cwV C 0 mw_517 mw_518 mw_49 mw_71 mw_519 rfl rfl (by decide +kernel) (by decide)) em_nc_MD em_sh_MD rfl rfl rfl (Nat.le_of_ble_eq_true rfl) d_MD_walk_111 (by decide) (fun r_59 M_58 hw => ?_)
                  refine g_puti C 52 20 rfl ty_MD tyok_MD nm_MD d_MD_walk_114 em_nc_MD em_sh_MD rfl (by decide) rfl in_MD mw_419 rfl rfl rfl rfl rfl ?_
                  refine g_nameM (fun M_60 eM_60 => ?_)
                  have hw := hw M_60 eM_60
                  refine g_goto (tgt := 84) C d_MD_walk_117 (by decide) ?_
                  refine g_sub [0, 1, 2] rfl ?_
                  exact ih_17 M_60 (Nat.lt_of_lt_of_le hw.2 (Nat.le_of_lt_succ hn_17)) hw.1
          exact lp_17 _  M_15 (Nat.lt_succ_self _) h0
        · have hw := hw.2 hc_16
          refine g_aload_n C 0 0 d_MD_walk_66 rfl rfl ?_
          refine g_getr C 52 15 rfl d_MD_walk_67 em_nc_MD em_sh_MD rfl (by decide) rfl in_MD mw_414 rfl ?_
          refine g_iload_n C 2 2 d_MD_walk_70 rfl rfl ?_
          refine g_aload_n C 0 0 d_MD_walk_71 rfl rfl ?_
          refine g_iload_n C 2 2 d_MD_walk_72 rfl rfl ?_
          refine g_iconst (v := (nI 0)) C d_MD_walk_73 (by decide) ?_
          refine g_callVi C 52 rfl [.int x2_14, .int (nI 0)] [.int x2_14, .ref (ad (61))] (c_MD_firstFrom  hw) (em_cwV C 2 mw_514 mw_515 mw_48 mw_71 mw_516 rfl rfl (by decide +kernel) (by decide)) em_nc_MD em_sh_MD rfl rfl rfl (Nat.le_of_ble_eq_true rfl) d_MD_walk_74 (by decide) (fun r_62 M_61 hw => ?_)
          obtain ⟨rfl, hw⟩ := hw
          obtain ⟨hb_63, hw⟩ := hw
          refine g_iast C 61 rfl d_MD_walk_77 em_nc_mLine em_sh_mLine rfl hb_63 ?_
          refine g_nameM (fun M_64 eM_64 => ?_)
          have hw := hw M_64 eM_64
          obtain ⟨x2_65, ex2_65⟩ : ∃ y : Int32, y = x2_14 + nI 1 := ⟨_, rfl⟩
          have hw := hw x2_65 ex2_65
          refine g_iinc (v := x2_65) (lv' := [(2, .int x2_65), (0, .ref (ad (52))), (1, .int x1)]) C 2 d_MD_walk_78 rfl (by rw [ex2_65]; first | rfl | (congr 1)) (by decide) rfl ?_
          refine g_goto (tgt := 60) C d_MD_walk_81 (by decide) ?_
          refine g_sub [1, 2, 0] rfl ?_
          exact ih_13 x2_65 M_64 (Nat.lt_of_lt_of_le hw.2 (Nat.le_of_lt_succ hn_13)) hw.1
    exact lp_13 _ (nI 0) M_12 (Nat.lt_succ_self _) h0
  · have hw := hw.2 hc_4
    refine g_iconst (v := (-1 : Int32)) C d_MD_walk_16 (by decide) ?_
    exact g_iret C hQ rfl d_MD_walk_17 hw
theorem c_MD_walk {l : Launch} {D : va_G} {b0 : Nat} {cT : Nat → ClassId} {ad : Nat → Nat} {post : Int32 → em_M → Prop} {x1 : Int32} {M : em_M}  (hw : wp_MD_walk post x1 M) : Met l y_MD_walk (.code y_MD_walk b_MD_walk 3 (some .int) :: wAll) rm_MD_walk (va_Pc [.ref (ad (52)), .int x1] (em_U D b0 cT ad (SH ad) NC M)) (va_Qi post (em_U D b0 cT ad (SH ad) NC) (em_A b0)) 0 0 (em_A b0) :=
  em_met (by decide) rfl (Nat.le_of_ble_eq_true rfl) (fun X C _ _ hQ => v_MD_walk  C hQ hw)
