/-! THE WALKS, written by wip/gen -/
set_option maxHeartbeats 4000000 in
set_option maxRecDepth 100000 in
theorem v_MD_isSomewhere {X : em_X} {D : va_G} {b0 : Nat} {cT : Nat → ClassId} {ad : Nat → Nat} {post : Int32 → Prop} {x1 : Int32} {M : em_M}  (C : em_Cx X D b0 cT R_MD b_MD_isSomewhere (some .boolean) 4 rm_MD_isSomewhere) (hQ : xQ X = MQ (xB X) (va_Qi (fun r M1 => M = M1 ∧ post r) (em_U D b0 cT ad (SH ad) NC) (em_A b0)) (xA X) (xS X) 0 0 (em_A b0)) (hw : wp_MD_isSomewhere post x1 M) : em_G X D b0 cT ad 4 (SH ad) NC 0 0 M 0 [(0, .ref (ad (52))), (1, .int x1)] [] := by
  unfold wp_MD_isSomewhere at hw
  refine g_iconst (v := (nI 0)) C d_MD_isSomewhere_0 (by decide) ?_
  refine g_istore_n (lv' := [(2, .int (nI 0)), (0, .ref (ad (52))), (1, .int x1)]) C 2 d_MD_isSomewhere_1 rfl (by decide) rfl ?_
  refine g_iconst (v := (nI 0)) C d_MD_isSomewhere_2 (by decide) ?_
  refine g_istore_n (lv' := [(3, .int (nI 0)), (2, .int (nI 0)), (0, .ref (ad (52))), (1, .int x1)]) C 3 d_MD_isSomewhere_3 rfl (by decide) rfl ?_
  obtain ⟨I_1, mu_1, h0, hw⟩ := hw
  refine g_sub [2, 3, 1, 0] rfl ?_
  have lp_1 : ∀ (n_1 : Nat) (x2_2 : Int32) (x3_3 : Int32) , mu_1 x2_2 x3_3 < n_1 → I_1 x2_2 x3_3 → em_G X D b0 cT ad 4 (SH ad) NC 0 0 M 4 [(0, .ref (ad (52))), (1, .int x1), (2, .int x2_2), (3, .int x3_3)] [] := by
    intro n_1
    induction n_1 with
    | zero => intro x2_2 x3_3 h; exact absurd h (Nat.not_lt_zero _)
    | succ n_1 ih_1 =>
      intro x2_2 x3_3 hn_1 hi
      have hw := hw x2_2 x3_3 hi
      refine g_iload_n C 3 3 d_MD_isSomewhere_4 rfl rfl ?_
      refine g_bipush (v := (nI 12)) C d_MD_isSomewhere_5 (by decide) ?_
      refine g_icmp_ge (tgt := 35) C d_MD_isSomewhere_7 (by decide) (fun hc_4 => ?_) (fun hc_4 => ?_)
      · have hw := hw.1 hc_4
        refine g_iload_n C 2 2 d_MD_isSomewhere_35 rfl rfl ?_
        obtain ⟨hz_5, hw⟩ := hw
        exact g_zret C hQ rfl (em_bn hz_5) d_MD_isSomewhere_36 ⟨rfl, hw⟩
      · have hw := hw.2 hc_4
        refine g_iload_n C 2 2 d_MD_isSomewhere_10 rfl rfl ?_
        obtain ⟨J_6, hJ_6, hw⟩ := em_jn1 hw
        have j_6 : ∀ (z_11 : Int32) , J_6 z_11 → em_G X D b0 cT ad 4 (SH ad) NC 0 0 M 28 [(0, .ref (ad (52))), (1, .int x1), (2, .int x2_2), (3, .int x3_3)] [.int z_11] := by
          intro z_11 hw
          have hw := hJ_6 z_11 hw
          refine g_istore_n (lv' := [(2, .int z_11), (0, .ref (ad (52))), (1, .int x1), (3, .int x3_3)]) C 2 d_MD_isSomewhere_28 rfl (by decide) rfl ?_
          obtain ⟨x3_12, ex3_12⟩ : ∃ y : Int32, y = x3_3 + nI 1 := ⟨_, rfl⟩
          have hw := hw x3_12 ex3_12
          refine g_iinc (v := x3_12) (lv' := [(3, .int x3_12), (2, .int z_11), (0, .ref (ad (52))), (1, .int x1)]) C 3 d_MD_isSomewhere_29 rfl (by rw [ex3_12]; first | rfl | (congr 1)) (by decide) rfl ?_
          refine g_goto (tgt := 4) C d_MD_isSomewhere_32 (by decide) ?_
          refine g_sub [2, 3, 1, 0] rfl ?_
          exact ih_1 z_11 x3_12 (Nat.lt_of_lt_of_le hw.2 (Nat.le_of_lt_succ hn_1)) hw.1
        obtain ⟨J_13, hJ_13, hw⟩ := em_jn0 hw
        have j_13 : J_13 → em_G X D b0 cT ad 4 (SH ad) NC 0 0 M 23 [(0, .ref (ad (52))), (1, .int x1), (2, .int x2_2), (3, .int x3_3)] [] := by
          intro  hw
          have hw := hJ_13  hw
          refine g_iconst (v := (nI 1)) C d_MD_isSomewhere_23 (by decide) ?_
          refine g_goto (tgt := 28) C d_MD_isSomewhere_24 (by decide) ?_
          refine g_sub [0, 1, 2, 3] rfl ?_
          exact j_6 (nI 1) hw
        refine g_if_ne (tgt := 23) C d_MD_isSomewhere_11 (by decide) (fun hc_18 => ?_) (fun hc_18 => ?_)
        · have hw := hw.1 hc_18
          refine g_sub [0, 1, 2, 3] rfl ?_
          exact j_13  hw
        · have hw := hw.2 hc_18
          refine g_aload_n C 0 0 d_MD_isSomewhere_14 rfl rfl ?_
          refine g_iload_n C 3 3 d_MD_isSomewhere_15 rfl rfl ?_
          refine g_iload_n C 1 1 d_MD_isSomewhere_16 rfl rfl ?_
          refine g_callVi C 52 rfl [.int x3_3, .int x1] [] (c_MD_at  hw) (em_cwV C 2 mw_456 mw_457 mw_42 mw_71 mw_458 rfl rfl (by decide +kernel) (by decide)) em_nc_MD em_sh_MD rfl rfl rfl (Nat.le_of_ble_eq_true rfl) d_MD_isSomewhere_17 (by decide) (fun r_20 M_19 hw => ?_)
          obtain ⟨rfl, hw⟩ := hw
          refine g_if_le (tgt := 27) C d_MD_isSomewhere_20 (by decide) (fun hc_21 => ?_) (fun hc_21 => ?_)
          · have hw := hw.1 hc_21
            refine g_iconst (v := (nI 0)) C d_MD_isSomewhere_27 (by decide) ?_
            refine g_sub [0, 1, 2, 3] rfl ?_
            exact j_6 (nI 0) hw
          · have hw := hw.2 hc_21
            refine g_sub [0, 1, 2, 3] rfl ?_
            exact j_13  hw
  exact lp_1 _ (nI 0) (nI 0) (Nat.lt_succ_self _) h0
theorem c_MD_isSomewhere {l : Launch} {D : va_G} {b0 : Nat} {cT : Nat → ClassId} {ad : Nat → Nat} {post : Int32 → Prop} {x1 : Int32} {M : em_M}  (hw : wp_MD_isSomewhere post x1 M) : Met l y_MD_isSomewhere (.code y_MD_isSomewhere b_MD_isSomewhere 4 (some .boolean) :: wAll) rm_MD_isSomewhere (va_Pc [.ref (ad (52)), .int x1] (em_U D b0 cT ad (SH ad) NC M)) (va_Qi (fun r M1 => M = M1 ∧ post r) (em_U D b0 cT ad (SH ad) NC) (em_A b0)) 0 0 (em_A b0) :=
  em_met (by decide) rfl (Nat.le_of_ble_eq_true rfl) (fun X C _ _ hQ => v_MD_isSomewhere  C hQ hw)
set_option maxHeartbeats 4000000 in
set_option maxRecDepth 100000 in
theorem v_MD_keys {X : em_X} {D : va_G} {b0 : Nat} {cT : Nat → ClassId} {ad : Nat → Nat} {post : Int32 → em_M → Prop}  {M : em_M}  (C : em_Cx X D b0 cT R_MD b_MD_keys (some .int) 4 rm_MD_keys) (hQ : xQ X = MQ (xB X) (va_Qi post (em_U D b0 cT ad (SH ad) NC) (em_A b0)) (xA X) (xS X) 0 0 (em_A b0)) (hw : wp_MD_keys post  M) : em_G X D b0 cT ad 4 (SH ad) NC 0 0 M 0 [(0, .ref (ad (52)))] [] := by
  unfold wp_MD_keys at hw
  refine g_aload_n C 0 0 d_MD_keys_0 rfl rfl ?_
  refine g_iconst (v := (nI 0)) C d_MD_keys_1 (by decide) ?_
  refine g_puti C 52 0 rfl ty_MD tyok_MD nm_MD d_MD_keys_2 em_nc_MD em_sh_MD rfl (by decide) rfl in_MD mw_399 rfl rfl rfl rfl rfl ?_
  refine g_nameM (fun M_1 eM_1 => ?_)
  have hw := hw M_1 eM_1
  refine g_aload_n C 0 0 d_MD_keys_5 rfl rfl ?_
  refine g_iconst (v := (nI 0)) C d_MD_keys_6 (by decide) ?_
  refine g_puti C 52 8 rfl ty_MD tyok_MD nm_MD d_MD_keys_7 em_nc_MD em_sh_MD rfl (by decide) rfl in_MD mw_407 rfl rfl rfl rfl rfl ?_
  refine g_nameM (fun M_2 eM_2 => ?_)
  have hw := hw M_2 eM_2
  refine g_aload_n C 0 0 d_MD_keys_10 rfl rfl ?_
  refine g_iconst (v := (nI 1)) C d_MD_keys_11 (by decide) ?_
  refine g_puti C 52 9 rfl ty_MD tyok_MD nm_MD d_MD_keys_12 em_nc_MD em_sh_MD rfl (by decide) rfl in_MD mw_408 rfl rfl rfl rfl rfl ?_
  refine g_nameM (fun M_3 eM_3 => ?_)
  have hw := hw M_3 eM_3
  refine g_aload_n C 0 0 d_MD_keys_15 rfl rfl ?_
  refine g_iconst (v := (nI 1)) C d_MD_keys_16 (by decide) ?_
  refine g_puti C 52 10 rfl ty_MD tyok_MD nm_MD d_MD_keys_17 em_nc_MD em_sh_MD rfl (by decide) rfl in_MD mw_409 rfl rfl rfl rfl rfl ?_
  refine g_nameM (fun M_4 eM_4 => ?_)
  have hw := hw M_4 eM_4
  refine g_aload_n C 0 0 d_MD_keys_20 rfl rfl ?_
  refine g_iconst (v := (nI 0)) C d_MD_keys_21 (by decide) ?_
  refine g_puti C 52 23 rfl ty_MD tyok_MD nm_MD d_MD_keys_22 em_nc_MD em_sh_MD rfl (by decide) rfl in_MD mw_422 rfl rfl rfl rfl rfl ?_
  refine g_nameM (fun M_5 eM_5 => ?_)
  have hw := hw M_5 eM_5
  refine g_aload_n C 0 0 d_MD_keys_25 rfl rfl ?_
  refine g_iconst (v := (nI 0)) C d_MD_keys_26 (by decide) ?_
  refine g_puti C 52 24 rfl ty_MD tyok_MD nm_MD d_MD_keys_27 em_nc_MD em_sh_MD rfl (by decide) rfl in_MD mw_423 rfl rfl rfl rfl rfl ?_
  refine g_nameM (fun M_6 eM_6 => ?_)
  have hw := hw M_6 eM_6
  refine g_iconst (v := (nI 0)) C d_MD_keys_30 (by decide) ?_
  refine g_istore_n (lv' := [(1, .int (nI 0)), (0, .ref (ad (52)))]) C 1 d_MD_keys_31 rfl (by decide) rfl ?_
  obtain ⟨I_7, mu_7, h0, hw⟩ := hw
  refine g_sub [1, 0] rfl ?_
  have lp_7 : ∀ (n_7 : Nat) (x1_8 : Int32) (M_9 : em_M) , mu_7 x1_8 M_9 < n_7 → I_7 x1_8 M_9 → em_G X D b0 cT ad 4 (SH ad) NC 0 0 M_9 32 [(0, .ref (ad (52))), (1, .int x1_8)] [] := by
    intro n_7
    induction n_7 with
    | zero => intro x1_8 M_9 h; exact absurd h (Nat.not_lt_zero _)
    | succ n_7 ih_7 =>
      intro x1_8 M_9 hn_7 hi
      have hw := hw x1_8 M_9 hi
      refine g_iload_n C 1 1 d_MD_keys_32 rfl rfl ?_
      refine g_bipush (v := (nI 32)) C d_MD_keys_33 (by decide) ?_
      refine g_icmp_ge (tgt := 196) C d_MD_keys_35 (by decide) (fun hc_10 => ?_) (fun hc_10 => ?_)
      · have hw := hw.1 hc_10
        refine g_aload_n C 0 0 d_MD_keys_196 rfl rfl ?_
        refine g_geti C 52 8 rfl d_MD_keys_197 em_nc_MD em_sh_MD rfl (by decide) rfl in_MD mw_407 rfl ?_
        exact g_iret C hQ rfl d_MD_keys_200 hw
      · have hw := hw.2 hc_10
        refine g_sipush (v := (-2000 : Int32)) C d_MD_keys_38 (by decide) ?_
        refine g_istore_n (lv' := [(2, .int (-2000 : Int32)), (0, .ref (ad (52))), (1, .int x1_8)]) C 2 d_MD_keys_41 rfl (by decide) rfl ?_
        refine g_bipush (v := (nI 16)) C d_MD_keys_42 (by decide) ?_
        refine g_iload_n C 2 1 d_MD_keys_44 rfl rfl ?_
        refine g_imul C d_MD_keys_45 ?_
        refine g_topi (fun x3_11 ex3_11 => ?_)
        have hw := hw x3_11 ex3_11
        refine g_istore_n (lv' := [(3, .int x3_11), (2, .int (-2000 : Int32)), (0, .ref (ad (52))), (1, .int x1_8)]) C 3 d_MD_keys_46 rfl (by decide) rfl ?_
        obtain ⟨I_12, mu_12, h0, hw⟩ := hw
        refine g_sub [2, 3, 1, 0] rfl ?_
        have lp_12 : ∀ (n_12 : Nat) (x2_13 : Int32) (x3_14 : Int32) , mu_12 x2_13 x3_14 < n_12 → I_12 x2_13 x3_14 → em_G X D b0 cT ad 4 (SH ad) NC 0 0 M_9 47 [(0, .ref (ad (52))), (1, .int x1_8), (2, .int x2_13), (3, .int x3_14)] [] := by
          intro n_12
          induction n_12 with
          | zero => intro x2_13 x3_14 h; exact absurd h (Nat.not_lt_zero _)
          | succ n_12 ih_12 =>
            intro x2_13 x3_14 hn_12 hi
            have hw := hw x2_13 x3_14 hi
            refine g_iload_n C 3 3 d_MD_keys_47 rfl rfl ?_
            refine g_bipush (v := (nI 16)) C d_MD_keys_48 (by decide) ?_
            refine g_iload_n C 1 1 d_MD_keys_50 rfl rfl ?_
            refine g_imul C d_MD_keys_51 ?_
            refine g_bipush (v := (nI 16)) C d_MD_keys_52 (by decide) ?_
            refine g_iadd C d_MD_keys_54 ?_
            refine g_icmp_ge (tgt := 93) C d_MD_keys_55 (by decide) (fun hc_15 => ?_) (fun hc_15 => ?_)
            · have hw := hw.1 hc_15
              refine g_iload_n C 2 2 d_MD_keys_93 rfl rfl ?_
              refine g_sipush (v := (-2000 : Int32)) C d_MD_keys_94 (by decide) ?_
              obtain ⟨J_16, hJ_16, hw⟩ := em_jn2 hw
              have j_16 : ∀ (x3_47 : Int32) (M_48 : em_M) , J_16 x3_47 M_48 → em_G X D b0 cT ad 4 (SH ad) NC 0 0 M_48 190 [(0, .ref (ad (52))), (1, .int x1_8), (2, .int x2_13), (3, .int x3_47)] [] := by
                intro x3_47 M_48 hw
                have hw := hJ_16 x3_47 M_48 hw
                obtain ⟨x1_49, ex1_49⟩ : ∃ y : Int32, y = x1_8 + nI 1 := ⟨_, rfl⟩
                have hw := hw x1_49 ex1_49
                refine g_iinc (v := x1_49) (lv' := [(1, .int x1_49), (0, .ref (ad (52))), (2, .int x2_13), (3, .int x3_47)]) C 1 d_MD_keys_190 rfl (by rw [ex1_49]; first | rfl | (congr 1)) (by decide) rfl ?_
                refine g_goto (tgt := 32) C d_MD_keys_193 (by decide) ?_
                refine g_sub [1, 0] rfl ?_
                exact ih_7 x1_49 M_48 (Nat.lt_of_lt_of_le hw.2 (Nat.le_of_lt_succ hn_7)) hw.1
              refine g_icmp_le (tgt := 190) C d_MD_keys_97 (by decide) (fun hc_50 => ?_) (fun hc_50 => ?_)
              · have hw := hw.1 hc_50
                refine g_sub [0, 1, 2, 3] rfl ?_
                exact j_16 x3_14 M_9 hw
              · have hw := hw.2 hc_50
                refine g_aload_n C 0 0 d_MD_keys_100 rfl rfl ?_
                refine g_dup C d_MD_keys_101 rfl ?_
                refine g_geti C 52 23 rfl d_MD_keys_102 em_nc_MD em_sh_MD rfl (by decide) rfl in_MD mw_422 rfl ?_
                refine g_iconst (v := (nI 1)) C d_MD_keys_105 (by decide) ?_
                refine g_iadd C d_MD_keys_106 ?_
                refine g_puti C 52 23 rfl ty_MD tyok_MD nm_MD d_MD_keys_107 em_nc_MD em_sh_MD rfl (by decide) rfl in_MD mw_422 rfl rfl rfl rfl rfl ?_
                refine g_nameM (fun M_51 eM_51 => ?_)
                have hw := hw M_51 eM_51
                refine g_aload_n C 0 0 d_MD_keys_110 rfl rfl ?_
                refine g_geti C 52 8 rfl d_MD_keys_111 em_nc_MD em_sh_MD rfl (by decide) rfl in_MD mw_407 rfl ?_
                refine g_aload_n C 0 0 d_MD_keys_114 rfl rfl ?_
                refine g_geti C 52 5 rfl d_MD_keys_115 em_nc_MD em_sh_MD rfl (by decide) rfl in_MD mw_404 rfl ?_
                obtain ⟨J_52, hJ_52, hw⟩ := em_jn0 hw
                have j_52 : J_52 → em_G X D b0 cT ad 4 (SH ad) NC 0 0 M_51 149 [(0, .ref (ad (52))), (1, .int x1_8), (2, .int x2_13), (3, .int x3_14)] [] := by
                  intro  hw
                  have hw := hJ_52  hw
                  refine g_bipush (v := (nI 16)) C d_MD_keys_149 (by decide) ?_
                  refine g_iload_n C 1 1 d_MD_keys_151 rfl rfl ?_
                  refine g_imul C d_MD_keys_152 ?_
                  refine g_topi (fun x3_57 ex3_57 => ?_)
                  have hw := hw x3_57 ex3_57
                  refine g_istore_n (lv' := [(3, .int x3_57), (0, .ref (ad (52))), (1, .int x1_8), (2, .int x2_13)]) C 3 d_MD_keys_153 rfl (by decide) rfl ?_
                  obtain ⟨I_58, mu_58, h0, hw⟩ := hw
                  refine g_sub [1, 2, 3, 0] rfl ?_
                  have lp_58 : ∀ (n_58 : Nat) (x3_59 : Int32) (M_60 : em_M) , mu_58 x3_59 M_60 < n_58 → I_58 x3_59 M_60 → em_G X D b0 cT ad 4 (SH ad) NC 0 0 M_60 154 [(0, .ref (ad (52))), (1, .int x1_8), (2, .int x2_13), (3, .int x3_59)] [] := by
                    intro n_58
                    induction n_58 with
                    | zero => intro x3_59 M_60 h; exact absurd h (Nat.not_lt_zero _)
                    | succ n_58 ih_58 =>
                      intro x3_59 M_60 hn_58 hi
                      have hw := hw x3_59 M_60 hi
                      refine g_iload_n C 3 3 d_MD_keys_154 rfl rfl ?_
                      refine g_bipush (v := (nI 16)) C d_MD_keys_155 (by decide) ?_
                      refine g_iload_n C 1 1 d_MD_keys_157 rfl rfl ?_
                      refine g_imul C d_MD_keys_158 ?_
                      refine g_bipush (v := (nI 16)) C d_MD_keys_159 (by decide) ?_
                      refine g_iadd C d_MD_keys_161 ?_
                      refine g_icmp_ge (tgt := 190) C d_MD_keys_162 (by decide) (fun hc_61 => ?_) (fun hc_61 => ?_)
                      · have hw := hw.1 hc_61
                        refine g_sub [0, 1, 2, 3] rfl ?_
                        exact j_16 x3_59 M_60 hw
                      · have hw := hw.2 hc_61
                        refine g_aload_n C 0 0 d_MD_keys_165 rfl rfl ?_
                        refine g_iload_n C 3 3 d_MD_keys_166 rfl rfl ?_
                        refine g_callVi C 52 rfl [.int x3_59] [] (c_MD_isFit  hw) (em_cwV C 1 mw_493 mw_494 mw_45 mw_71 mw_495 rfl rfl (by decide +kernel) (by decide)) em_nc_MD em_sh_MD rfl rfl rfl (Nat.le_of_ble_eq_true rfl) d_MD_keys_167 (by decide) (fun r_63 M_62 hw => ?_)
                        obtain ⟨rfl, hw⟩ := hw
                        obtain ⟨J_64, hJ_64, hw⟩ := em_jn1 hw
                        have j_64 : ∀ (M_68 : em_M) , J_64 M_68 → em_G X D b0 cT ad 4 (SH ad) NC 0 0 M_68 184 [(0, .ref (ad (52))), (1, .int x1_8), (2, .int x2_13), (3, .int x3_59)] [] := by
                          intro M_68 hw
                          have hw := hJ_64 M_68 hw
                          obtain ⟨x3_69, ex3_69⟩ : ∃ y : Int32, y = x3_59 + nI 1 := ⟨_, rfl⟩
                          have hw := hw x3_69 ex3_69
                          refine g_iinc (v := x3_69) (lv' := [(3, .int x3_69), (0, .ref (ad (52))), (1, .int x1_8), (2, .int x2_13)]) C 3 d_MD_keys_184 rfl (by rw [ex3_69]; first | rfl | (congr 1)) (by decide) rfl ?_
                          refine g_goto (tgt := 154) C d_MD_keys_187 (by decide) ?_
                          refine g_sub [1, 2, 3, 0] rfl ?_
                          exact ih_58 x3_69 M_68 (Nat.lt_of_lt_of_le hw.2 (Nat.le_of_lt_succ hn_58)) hw.1
                        refine g_if_eq (tgt := 184) C d_MD_keys_170 (by decide) (fun hc_70 => ?_) (fun hc_70 => ?_)
                        · have hw := hw.1 hc_70
                          refine g_sub [0, 1, 2, 3] rfl ?_
                          exact j_64 M_60 hw
                        · have hw := hw.2 hc_70
                          refine g_aload_n C 0 0 d_MD_keys_173 rfl rfl ?_
                          refine g_iload_n C 3 3 d_MD_keys_174 rfl rfl ?_
                          refine g_aload_n C 0 0 d_MD_keys_175 rfl rfl ?_
                          refine g_getr C 52 2 rfl d_MD_keys_176 em_nc_MD em_sh_MD rfl (by decide) rfl in_MD mw_401 rfl ?_
                          refine g_iload_n C 3 3 d_MD_keys_179 rfl rfl ?_
                          obtain ⟨hb_71, hw⟩ := hw
                          refine g_iald C 54 rfl d_MD_keys_180 em_nc_mKey em_sh_mKey rfl hb_71 ?_
                          refine g_callVv C 52 rfl [.int x3_59, .int (M_60 (54) x3_59.toNatClampNeg)] [] (c_MD_hold  hw) (em_cwV C 2 mw_550 mw_551 mw_60 mw_71 mw_552 rfl rfl (by decide +kernel) (by decide)) em_nc_MD em_sh_MD rfl rfl rfl (Nat.le_of_ble_eq_true rfl) d_MD_keys_181 (by decide) (fun M_72 hw => ?_)
                          refine g_sub [0, 1, 2, 3] rfl ?_
                          exact j_64 M_72 hw
                  exact lp_58 _ x3_57 M_51 (Nat.lt_succ_self _) h0
                refine g_icmp_ne (tgt := 149) C d_MD_keys_118 (by decide) (fun hc_73 => ?_) (fun hc_73 => ?_)
                · have hw := hw.1 hc_73
                  refine g_sub [0, 1, 2, 3] rfl ?_
                  exact j_52  hw
                · have hw := hw.2 hc_73
                  refine g_iload_n C 2 2 d_MD_keys_121 rfl rfl ?_
                  refine g_aload_n C 0 0 d_MD_keys_122 rfl rfl ?_
                  refine g_getr C 52 12 rfl d_MD_keys_123 em_nc_MD em_sh_MD rfl (by decide) rfl in_MD mw_411 rfl ?_
                  refine g_aload_n C 0 0 d_MD_keys_126 rfl rfl ?_
                  refine g_geti C 52 5 rfl d_MD_keys_127 em_nc_MD em_sh_MD rfl (by decide) rfl in_MD mw_404 rfl ?_
                  refine g_iconst (v := (nI 1)) C d_MD_keys_130 (by decide) ?_
                  refine g_isub C d_MD_keys_131 ?_
                  obtain ⟨hb_74, hw⟩ := hw
                  refine g_iald C 58 rfl d_MD_keys_132 em_nc_mNum em_sh_mNum rfl hb_74 ?_
                  refine g_icmp_gt (tgt := 149) C d_MD_keys_133 (by decide) (fun hc_75 => ?_) (fun hc_75 => ?_)
                  · have hw := hw.1 hc_75
                    refine g_sub [0, 1, 2, 3] rfl ?_
                    exact j_52  hw
                  · have hw := hw.2 hc_75
                    refine g_aload_n C 0 0 d_MD_keys_136 rfl rfl ?_
                    refine g_dup C d_MD_keys_137 rfl ?_
                    refine g_geti C 52 24 rfl d_MD_keys_138 em_nc_MD em_sh_MD rfl (by decide) rfl in_MD mw_423 rfl ?_
                    refine g_iconst (v := (nI 1)) C d_MD_keys_141 (by decide) ?_
                    refine g_iadd C d_MD_keys_142 ?_
                    refine g_puti C 52 24 rfl ty_MD tyok_MD nm_MD d_MD_keys_143 em_nc_MD em_sh_MD rfl (by decide) rfl in_MD mw_423 rfl rfl rfl rfl rfl ?_
                    refine g_nameM (fun M_76 eM_76 => ?_)
                    have hw := hw M_76 eM_76
                    refine g_goto (tgt := 190) C d_MD_keys_146 (by decide) ?_
                    refine g_sub [0, 1, 2, 3] rfl ?_
                    exact j_16 x3_14 M_76 hw
            · have hw := hw.2 hc_15
              refine g_aload_n C 0 0 d_MD_keys_58 rfl rfl ?_
              refine g_iload_n C 3 3 d_MD_keys_59 rfl rfl ?_
              refine g_callVi C 52 rfl [.int x3_14] [] (c_MD_isSomewhere  hw) (em_cwV C 1 mw_560 mw_561 mw_62 mw_71 mw_562 rfl rfl (by decide +kernel) (by decide)) em_nc_MD em_sh_MD rfl rfl rfl (Nat.le_of_ble_eq_true rfl) d_MD_keys_60 (by decide) (fun r_78 M_77 hw => ?_)
              obtain ⟨rfl, hw⟩ := hw
              obtain ⟨J_79, hJ_79, hw⟩ := em_jn1 hw
              have j_79 : ∀ (z_83 : Int32) , J_79 z_83 → em_G X D b0 cT ad 4 (SH ad) NC 0 0 M_9 86 [(0, .ref (ad (52))), (1, .int x1_8), (2, .int x2_13), (3, .int x3_14)] [.int z_83] := by
                intro z_83 hw
                have hw := hJ_79 z_83 hw
                refine g_istore_n (lv' := [(2, .int z_83), (0, .ref (ad (52))), (1, .int x1_8), (3, .int x3_14)]) C 2 d_MD_keys_86 rfl (by decide) rfl ?_
                obtain ⟨x3_84, ex3_84⟩ : ∃ y : Int32, y = x3_14 + nI 1 := ⟨_, rfl⟩
                have hw := hw x3_84 ex3_84
                refine g_iinc (v := x3_84) (lv' := [(3, .int x3_84), (2, .int z_83), (0, .ref (ad (52))), (1, .int x1_8)]) C 3 d_MD_keys_87 rfl (by rw [ex3_84]; first | rfl | (congr 1)) (by decide) rfl ?_
                refine g_goto (tgt := 47) C d_MD_keys_90 (by decide) ?_
                refine g_sub [2, 3, 1, 0] rfl ?_
                exact ih_12 z_83 x3_84 (Nat.lt_of_lt_of_le hw.2 (Nat.le_of_lt_succ hn_12)) hw.1
              obtain ⟨J_85, hJ_85, hw⟩ := em_jn0 hw
              have j_85 : J_85 → em_G X D b0 cT ad 4 (SH ad) NC 0 0 M_9 85 [(0, .ref (ad (52))), (1, .int x1_8), (2, .int x2_13), (3, .int x3_14)] [] := by
                intro  hw
                have hw := hJ_85  hw
                refine g_iload_n C 2 2 d_MD_keys_85 rfl rfl ?_
                refine g_sub [0, 1, 2, 3] rfl ?_
                exact j_79 x2_13 hw
              refine g_if_eq (tgt := 85) C d_MD_keys_63 (by decide) (fun hc_89 => ?_) (fun hc_89 => ?_)
              · have hw := hw.1 hc_89
                refine g_sub [0, 1, 2, 3] rfl ?_
                exact j_85  hw
              · have hw := hw.2 hc_89
                refine g_aload_n C 0 0 d_MD_keys_66 rfl rfl ?_
                refine g_getr C 52 2 rfl d_MD_keys_67 em_nc_MD em_sh_MD rfl (by decide) rfl in_MD mw_401 rfl ?_
                refine g_iload_n C 3 3 d_MD_keys_70 rfl rfl ?_
                obtain ⟨hb_90, hw⟩ := hw
                refine g_iald C 54 rfl d_MD_keys_71 em_nc_mKey em_sh_mKey rfl hb_90 ?_
                refine g_iload_n C 2 2 d_MD_keys_72 rfl rfl ?_
                refine g_icmp_le (tgt := 85) C d_MD_keys_73 (by decide) (fun hc_91 => ?_) (fun hc_91 => ?_)
                · have hw := hw.1 hc_91
                  refine g_sub [0, 1, 2, 3] rfl ?_
                  exact j_85  hw
                · have hw := hw.2 hc_91
                  refine g_aload_n C 0 0 d_MD_keys_76 rfl rfl ?_
                  refine g_getr C 52 2 rfl d_MD_keys_77 em_nc_MD em_sh_MD rfl (by decide) rfl in_MD mw_401 rfl ?_
                  refine g_iload_n C 3 3 d_MD_keys_80 rfl rfl ?_
                  refine g_iald C 54 rfl d_MD_keys_81 em_nc_mKey em_sh_mKey rfl hb_90 ?_
                  refine g_goto (tgt := 86) C d_MD_keys_82 (by decide) ?_
                  refine g_sub [0, 1, 2, 3] rfl ?_
                  exact j_79 (M_9 (54) x3_14.toNatClampNeg) hw
        exact lp_12 _ (-2000 : Int32) x3_11 (Nat.lt_succ_self _) h0
  exact lp_7 _ (nI 0) M_6 (Nat.lt_succ_self _) h0
theorem c_MD_keys {l : Launch} {D : va_G} {b0 : Nat} {cT : Nat → ClassId} {ad : Nat → Nat} {post : Int32 → em_M → Prop}  {M : em_M}  (hw : wp_MD_keys post  M) : Met l y_MD_keys (.code y_MD_keys b_MD_keys 4 (some .int) :: wAll) rm_MD_keys (va_Pc [.ref (ad (52))] (em_U D b0 cT ad (SH ad) NC M)) (va_Qi post (em_U D b0 cT ad (SH ad) NC) (em_A b0)) 0 0 (em_A b0) :=
  em_met (by decide) rfl (Nat.le_of_ble_eq_true rfl) (fun X C _ _ hQ => v_MD_keys  C hQ hw)
set_option maxHeartbeats 4000000 in
set_option maxRecDepth 100000 in
theorem v_MD_anew {X : em_X} {D : va_G} {b0 : Nat} {cT : Nat → ClassId} {ad : Nat → Nat} {post : Int32 → em_M → Prop} {x1 : Int32} {x2 : Int32} {M : em_M}  (C : em_Cx X D b0 cT R_MD b_MD_anew (some .int) 6 rm_MD_anew) (hQ : xQ X = MQ (xB X) (va_Qi post (em_U D b0 cT ad (SH ad) NC) (em_A b0)) (xA X) (xS X) 0 0 (em_A b0)) (hw : wp_MD_anew post x1 x2 M) : em_G X D b0 cT ad 6 (SH ad) NC 0 0 M 0 [(0, .ref (ad (52))), (1, .int x1), (2, .int x2)] [] := by
  unfold wp_MD_anew at hw
  refine g_aload_n C 0 0 d_MD_anew_0 rfl rfl ?_
  refine g_iconst (v := (nI 0)) C d_MD_anew_1 (by decide) ?_
  refine g_puti C 52 0 rfl ty_MD tyok_MD nm_MD d_MD_anew_2 em_nc_MD em_sh_MD rfl (by decide) rfl in_MD mw_399 rfl rfl rfl rfl rfl ?_
  refine g_nameM (fun M_1 eM_1 => ?_)
  have hw := hw M_1 eM_1
  refine g_iload_n C 1 1 d_MD_anew_5 rfl rfl ?_
  refine g_iconst (v := (nI 0)) C d_MD_anew_6 (by decide) ?_
  refine g_bipush (v := (nI 20)) C d_MD_anew_7 (by decide) ?_
  refine g_callSi C [.int x1, .int (nI 0), .int (nI 20)] [] (c_MD_in  hw) (em_cwS C 3 mw_453 mw_454 mw_71 mw_455 rfl rfl (by decide +kernel) (by decide)) rfl rfl (Nat.le_of_ble_eq_true rfl) d_MD_anew_9 (by decide) (fun r_3 M_2 hw => ?_)
  obtain ⟨rfl, hw⟩ := hw
  refine g_if_eq (tgt := 26) C d_MD_anew_12 (by decide) (fun hc_4 => ?_) (fun hc_4 => ?_)
  · have hw := hw.1 hc_4
    refine g_iconst (v := (-1 : Int32)) C d_MD_anew_26 (by decide) ?_
    exact g_iret C hQ rfl d_MD_anew_27 hw
  · have hw := hw.2 hc_4
    refine g_iload_n C 2 2 d_MD_anew_15 rfl rfl ?_
    refine g_bipush (v := (-9 : Int32)) C d_MD_anew_16 (by decide) ?_
    refine g_bipush (v := (nI 9)) C d_MD_anew_18 (by decide) ?_
    refine g_callSi C [.int x2, .int (-9 : Int32), .int (nI 9)] [] (c_MD_in  hw) (em_cwS C 3 mw_453 mw_454 mw_71 mw_455 rfl rfl (by decide +kernel) (by decide)) rfl rfl (Nat.le_of_ble_eq_true rfl) d_MD_anew_20 (by decide) (fun r_6 M_5 hw => ?_)
    obtain ⟨rfl, hw⟩ := hw
    refine g_if_ne (tgt := 28) C d_MD_anew_23 (by decide) (fun hc_7 => ?_) (fun hc_7 => ?_)
    · have hw := hw.1 hc_7
      refine g_aload_n C 0 0 d_MD_anew_28 rfl rfl ?_
      refine g_geti C 52 10 rfl d_MD_anew_29 em_nc_MD em_sh_MD rfl (by decide) rfl in_MD mw_409 rfl ?_
      refine g_if_ne (tgt := 38) C d_MD_anew_32 (by decide) (fun hc_8 => ?_) (fun hc_8 => ?_)
      · have hw := hw.1 hc_8
        refine g_iload_n C 1 1 d_MD_anew_38 rfl rfl ?_
        refine g_aload_n C 0 0 d_MD_anew_39 rfl rfl ?_
        refine g_geti C 52 8 rfl d_MD_anew_40 em_nc_MD em_sh_MD rfl (by decide) rfl in_MD mw_407 rfl ?_
        obtain ⟨J_9, hJ_9, hw⟩ := em_jn1 hw
        have j_9 : ∀ (z_11 : Int32) , J_9 z_11 → em_G X D b0 cT ad 6 (SH ad) NC 0 0 M_1 54 [(0, .ref (ad (52))), (1, .int x1), (2, .int x2)] [.int z_11] := by
          intro z_11 hw
          have hw := hJ_9 z_11 hw
          refine g_istore_n (lv' := [(3, .int z_11), (0, .ref (ad (52))), (1, .int x1), (2, .int x2)]) C 3 d_MD_anew_54 rfl (by decide) rfl ?_
          refine g_iconst (v := (nI 0)) C d_MD_anew_55 (by decide) ?_
          refine g_istore (lv' := [(4, .int (nI 0)), (3, .int z_11), (0, .ref (ad (52))), (1, .int x1), (2, .int x2)]) C d_MD_anew_56 (by decide) rfl ?_
          obtain ⟨I_12, mu_12, h0, hw⟩ := hw
          refine g_sub [2, 3, 4, 1, 0] rfl ?_
          have lp_12 : ∀ (n_12 : Nat) (x4_13 : Int32) (M_14 : em_M) , mu_12 x4_13 M_14 < n_12 → I_12 x4_13 M_14 → em_G X D b0 cT ad 6 (SH ad) NC 0 0 M_14 58 [(0, .ref (ad (52))), (1, .int x1), (2, .int x2), (3, .int z_11), (4, .int x4_13)] [] := by
            intro n_12
            induction n_12 with
            | zero => intro x4_13 M_14 h; exact absurd h (Nat.not_lt_zero _)
            | succ n_12 ih_12 =>
              intro x4_13 M_14 hn_12 hi
              have hw := hw x4_13 M_14 hi
              refine g_iload C 4 d_MD_anew_58 rfl ?_
              refine g_iload_n C 3 3 d_MD_anew_60 rfl rfl ?_
              refine g_icmp_ge (tgt := 111) C d_MD_anew_61 (by decide) (fun hc_15 => ?_) (fun hc_15 => ?_)
              · have hw := hw.1 hc_15
                refine g_iconst (v := (nI 1)) C d_MD_anew_111 (by decide) ?_
                refine g_istore (lv' := [(4, .int (nI 1)), (0, .ref (ad (52))), (1, .int x1), (2, .int x2), (3, .int z_11)]) C d_MD_anew_112 (by decide) rfl ?_
                obtain ⟨I_16, mu_16, h0, hw⟩ := hw
                refine g_sub [1, 2, 3, 4, 0] rfl ?_
                have lp_16 : ∀ (n_16 : Nat) (x4_17 : Int32) (M_18 : em_M) , mu_16 x4_17 M_18 < n_16 → I_16 x4_17 M_18 → em_G X D b0 cT ad 6 (SH ad) NC 0 0 M_18 114 [(0, .ref (ad (52))), (1, .int x1), (2, .int x2), (3, .int z_11), (4, .int x4_17)] [] := by
                  intro n_16
                  induction n_16 with
                  | zero => intro x4_17 M_18 h; exact absurd h (Nat.not_lt_zero _)
                  | succ n_16 ih_16 =>
                    intro x4_17 M_18 hn_16 hi
                    have hw := hw x4_17 M_18 hi
                    refine g_iload C 4 d_MD_anew_114 rfl ?_
                    refine g_iload_n C 3 3 d_MD_anew_116 rfl rfl ?_
                    refine g_icmp_ge (tgt := 224) C d_MD_anew_117 (by decide) (fun hc_19 => ?_) (fun hc_19 => ?_)
                    · have hw := hw.1 hc_19
                      refine g_iload_n C 3 3 d_MD_anew_224 rfl rfl ?_
                      exact g_iret C hQ rfl d_MD_anew_225 hw
                    · have hw := hw.2 hc_19
                      refine g_aload_n C 0 0 d_MD_anew_120 rfl rfl ?_
                      refine g_iload C 4 d_MD_anew_121 rfl ?_
                      refine g_bipush (v := (nI 20)) C d_MD_anew_123 (by decide) ?_
                      refine g_callVv C 52 rfl [.int x4_17, .int (nI 20)] [] (c_MD_move  hw) (em_cwV C 2 mw_553 mw_554 mw_61 mw_71 mw_555 rfl rfl (by decide +kernel) (by decide)) em_nc_MD em_sh_MD rfl rfl rfl (Nat.le_of_ble_eq_true rfl) d_MD_anew_125 (by decide) (fun M_20 hw => ?_)
                      refine g_iload C 4 d_MD_anew_128 rfl ?_
                      refine g_istore (lv' := [(5, .int x4_17), (0, .ref (ad (52))), (1, .int x1), (2, .int x2), (3, .int z_11), (4, .int x4_17)]) C d_MD_anew_130 (by decide) rfl ?_
                      obtain ⟨I_21, mu_21, h0, hw⟩ := hw
                      refine g_sub [1, 2, 3, 4, 5, 0] rfl ?_
                      have lp_21 : ∀ (n_21 : Nat) (x5_22 : Int32) (M_23 : em_M) , mu_21 x5_22 M_23 < n_21 → I_21 x5_22 M_23 → em_G X D b0 cT ad 6 (SH ad) NC 0 0 M_23 132 [(0, .ref (ad (52))), (1, .int x1), (2, .int x2), (3, .int z_11), (4, .int x4_17), (5, .int x5_22)] [] := by
                        intro n_21
                        induction n_21 with
                        | zero => intro x5_22 M_23 h; exact absurd h (Nat.not_lt_zero _)
                        | succ n_21 ih_21 =>
                          intro x5_22 M_23 hn_21 hi
                          have hw := hw x5_22 M_23 hi
                          refine g_iload C 5 d_MD_anew_132 rfl ?_
                          obtain ⟨J_24, hJ_24, hw⟩ := em_jn0 hw
                          have j_24 : J_24 → em_G X D b0 cT ad 6 (SH ad) NC 0 0 M_23 210 [(0, .ref (ad (52))), (1, .int x1), (2, .int x2), (3, .int z_11), (4, .int x4_17), (5, .int x5_22)] [] := by
                            intro  hw
                            have hw := hJ_24  hw
                            refine g_aload_n C 0 0 d_MD_anew_210 rfl rfl ?_
                            refine g_bipush (v := (nI 20)) C d_MD_anew_211 (by decide) ?_
                            refine g_iload C 5 d_MD_anew_213 rfl ?_
                            refine g_callVv C 52 rfl [.int (nI 20), .int x5_22] [] (c_MD_move  hw) (em_cwV C 2 mw_553 mw_554 mw_61 mw_71 mw_555 rfl rfl (by decide +kernel) (by decide)) em_nc_MD em_sh_MD rfl rfl rfl (Nat.le_of_ble_eq_true rfl) d_MD_anew_215 (by decide) (fun M_35 hw => ?_)
                            obtain ⟨x4_36, ex4_36⟩ : ∃ y : Int32, y = x4_17 + nI 1 := ⟨_, rfl⟩
                            have hw := hw x4_36 ex4_36
                            refine g_iinc (v := x4_36) (lv' := [(4, .int x4_36), (0, .ref (ad (52))), (1, .int x1), (2, .int x2), (3, .int z_11), (5, .int x5_22)]) C 4 d_MD_anew_218 rfl (by rw [ex4_36]; first | rfl | (congr 1)) (by decide) rfl ?_
                            refine g_goto (tgt := 114) C d_MD_anew_221 (by decide) ?_
                            refine g_sub [1, 2, 3, 4, 0] rfl ?_
                            exact ih_16 x4_36 M_35 (Nat.lt_of_lt_of_le hw.2 (Nat.le_of_lt_succ hn_16)) hw.1
                          refine g_if_le (tgt := 210) C d_MD_anew_134 (by decide) (fun hc_37 => ?_) (fun hc_37 => ?_)
                          · have hw := hw.1 hc_37
                            refine g_sub [0, 1, 2, 3, 4, 5] rfl ?_
                            exact j_24  hw
                          · have hw := hw.2 hc_37
                            refine g_aload_n C 0 0 d_MD_anew_137 rfl rfl ?_
                            refine g_getr C 52 12 rfl d_MD_anew_138 em_nc_MD em_sh_MD rfl (by decide) rfl in_MD mw_411 rfl ?_
                            refine g_iload C 5 d_MD_anew_141 rfl ?_
                            refine g_iconst (v := (nI 1)) C d_MD_anew_143 (by decide) ?_
                            refine g_isub C d_MD_anew_144 ?_
                            obtain ⟨hb_38, hw⟩ := hw
                            refine g_iald C 58 rfl d_MD_anew_145 em_nc_mNum em_sh_mNum rfl hb_38 ?_
                            refine g_aload_n C 0 0 d_MD_anew_146 rfl rfl ?_
                            refine g_getr C 52 12 rfl d_MD_anew_147 em_nc_MD em_sh_MD rfl (by decide) rfl in_MD mw_411 rfl ?_
                            refine g_bipush (v := (nI 20)) C d_MD_anew_150 (by decide) ?_
                            obtain ⟨hb_39, hw⟩ := hw
                            refine g_iald C 58 rfl d_MD_anew_152 em_nc_mNum em_sh_mNum rfl hb_39 ?_
                            obtain ⟨J_40, hJ_40, hw⟩ := em_jn0 hw
                            have j_40 : J_40 → em_G X D b0 cT ad 6 (SH ad) NC 0 0 M_23 194 [(0, .ref (ad (52))), (1, .int x1), (2, .int x2), (3, .int z_11), (4, .int x4_17), (5, .int x5_22)] [] := by
                              intro  hw
                              have hw := hJ_40  hw
                              refine g_aload_n C 0 0 d_MD_anew_194 rfl rfl ?_
                              refine g_iload C 5 d_MD_anew_195 rfl ?_
                              refine g_iconst (v := (nI 1)) C d_MD_anew_197 (by decide) ?_
                              refine g_isub C d_MD_anew_198 ?_
                              refine g_iload C 5 d_MD_anew_199 rfl ?_
                              refine g_callVv C 52 rfl [.int (x5_22 - (nI 1)), .int x5_22] [] (c_MD_move  hw) (em_cwV C 2 mw_553 mw_554 mw_61 mw_71 mw_555 rfl rfl (by decide +kernel) (by decide)) em_nc_MD em_sh_MD rfl rfl rfl (Nat.le_of_ble_eq_true rfl) d_MD_anew_201 (by decide) (fun M_44 hw => ?_)
                              obtain ⟨x5_45, ex5_45⟩ : ∃ y : Int32, y = x5_22 + (-1) := ⟨_, rfl⟩
                              have hw := hw x5_45 ex5_45
                              refine g_iinc (v := x5_45) (lv' := [(5, .int x5_45), (0, .ref (ad (52))), (1, .int x1), (2, .int x2), (3, .int z_11), (4, .int x4_17)]) C 5 d_MD_anew_204 rfl (by rw [ex5_45]; first | rfl | (congr 1)) (by decide) rfl ?_
                              refine g_goto (tgt := 132) C d_MD_anew_207 (by decide) ?_
                              refine g_sub [1, 2, 3, 4, 5, 0] rfl ?_
                              exact ih_21 x5_45 M_44 (Nat.lt_of_lt_of_le hw.2 (Nat.le_of_lt_succ hn_21)) hw.1
                            refine g_icmp_lt (tgt := 194) C d_MD_anew_153 (by decide) (fun hc_46 => ?_) (fun hc_46 => ?_)
                            · have hw := hw.1 hc_46
                              refine g_sub [0, 1, 2, 3, 4, 5] rfl ?_
                              exact j_40  hw
                            · have hw := hw.2 hc_46
                              refine g_aload_n C 0 0 d_MD_anew_156 rfl rfl ?_
                              refine g_getr C 52 12 rfl d_MD_anew_157 em_nc_MD em_sh_MD rfl (by decide) rfl in_MD mw_411 rfl ?_
                              refine g_iload C 5 d_MD_anew_160 rfl ?_
                              refine g_iconst (v := (nI 1)) C d_MD_anew_162 (by decide) ?_
                              refine g_isub C d_MD_anew_163 ?_
                              refine g_iald C 58 rfl d_MD_anew_164 em_nc_mNum em_sh_mNum rfl hb_38 ?_
                              refine g_aload_n C 0 0 d_MD_anew_165 rfl rfl ?_
                              refine g_getr C 52 12 rfl d_MD_anew_166 em_nc_MD em_sh_MD rfl (by decide) rfl in_MD mw_411 rfl ?_
                              refine g_bipush (v := (nI 20)) C d_MD_anew_169 (by decide) ?_
                              refine g_iald C 58 rfl d_MD_anew_171 em_nc_mNum em_sh_mNum rfl hb_39 ?_
                              refine g_icmp_ne (tgt := 210) C d_MD_anew_172 (by decide) (fun hc_47 => ?_) (fun hc_47 => ?_)
                              · have hw := hw.1 hc_47
                                refine g_sub [0, 1, 2, 3, 4, 5] rfl ?_
                                exact j_24  hw
                              · have hw := hw.2 hc_47
                                refine g_aload_n C 0 0 d_MD_anew_175 rfl rfl ?_
                                refine g_getr C 52 11 rfl d_MD_anew_176 em_nc_MD em_sh_MD rfl (by decide) rfl in_MD mw_410 rfl ?_
                                refine g_iload C 5 d_MD_anew_179 rfl ?_
                                refine g_iconst (v := (nI 1)) C d_MD_anew_181 (by decide) ?_
                                refine g_isub C d_MD_anew_182 ?_
                                refine g_iald C 57 rfl d_MD_anew_183 em_nc_mObj em_sh_mObj rfl hb_38 ?_
                                refine g_aload_n C 0 0 d_MD_anew_184 rfl rfl ?_
                                refine g_getr C 52 11 rfl d_MD_anew_185 em_nc_MD em_sh_MD rfl (by decide) rfl in_MD mw_410 rfl ?_
                                refine g_bipush (v := (nI 20)) C d_MD_anew_188 (by decide) ?_
                                refine g_iald C 57 rfl d_MD_anew_190 em_nc_mObj em_sh_mObj rfl hb_39 ?_
                                refine g_icmp_le (tgt := 210) C d_MD_anew_191 (by decide) (fun hc_48 => ?_) (fun hc_48 => ?_)
                                · have hw := hw.1 hc_48
                                  refine g_sub [0, 1, 2, 3, 4, 5] rfl ?_
                                  exact j_24  hw
                                · have hw := hw.2 hc_48
                                  refine g_sub [0, 1, 2, 3, 4, 5] rfl ?_
                                  exact j_40  hw
                      exact lp_21 _ x4_17 M_20 (Nat.lt_succ_self _) h0
                exact lp_16 _ (nI 1) M_14 (Nat.lt_succ_self _) h0
              · have hw := hw.2 hc_15
                refine g_aload_n C 0 0 d_MD_anew_64 rfl rfl ?_
                refine g_getr C 52 12 rfl d_MD_anew_65 em_nc_MD em_sh_MD rfl (by decide) rfl in_MD mw_411 rfl ?_
                refine g_iload C 4 d_MD_anew_68 rfl ?_
                refine g_aload_n C 0 0 d_MD_anew_70 rfl rfl ?_
                refine g_getr C 52 12 rfl d_MD_anew_71 em_nc_MD em_sh_MD rfl (by decide) rfl in_MD mw_411 rfl ?_
                refine g_iload C 4 d_MD_anew_74 rfl ?_
                obtain ⟨hb_49, hw⟩ := hw
                refine g_iald C 58 rfl d_MD_anew_76 em_nc_mNum em_sh_mNum rfl hb_49 ?_
                refine g_iload_n C 2 2 d_MD_anew_77 rfl rfl ?_
                refine g_aload_n C 0 0 d_MD_anew_78 rfl rfl ?_
                refine g_geti C 52 9 rfl d_MD_anew_79 em_nc_MD em_sh_MD rfl (by decide) rfl in_MD mw_408 rfl ?_
                obtain ⟨J_50, hJ_50, hw⟩ := em_jn1 hw
                have j_50 : ∀ (z_52 : Int32) , J_50 z_52 → em_G X D b0 cT ad 6 (SH ad) NC 0 0 M_14 102 [(0, .ref (ad (52))), (1, .int x1), (2, .int x2), (3, .int z_11), (4, .int x4_13)] [.int z_52, .int x2, .int (M_14 (58) x4_13.toNatClampNeg), .int x4_13, .ref (ad (58))] := by
                  intro z_52 hw
                  have hw := hJ_50 z_52 hw
                  refine g_imul C d_MD_anew_102 ?_
                  refine g_iadd C d_MD_anew_103 ?_
                  refine g_iast C 58 rfl d_MD_anew_104 em_nc_mNum em_sh_mNum rfl hb_49 ?_
                  refine g_nameM (fun M_53 eM_53 => ?_)
                  have hw := hw M_53 eM_53
                  obtain ⟨x4_54, ex4_54⟩ : ∃ y : Int32, y = x4_13 + nI 1 := ⟨_, rfl⟩
                  have hw := hw x4_54 ex4_54
                  refine g_iinc (v := x4_54) (lv' := [(4, .int x4_54), (0, .ref (ad (52))), (1, .int x1), (2, .int x2), (3, .int z_11)]) C 4 d_MD_anew_105 rfl (by rw [ex4_54]; first | rfl | (congr 1)) (by decide) rfl ?_
                  refine g_goto (tgt := 58) C d_MD_anew_108 (by decide) ?_
                  refine g_sub [1, 2, 3, 4, 0] rfl ?_
                  exact ih_12 x4_54 M_53 (Nat.lt_of_lt_of_le hw.2 (Nat.le_of_lt_succ hn_12)) hw.1
                refine g_if_eq (tgt := 95) C d_MD_anew_82 (by decide) (fun hc_55 => ?_) (fun hc_55 => ?_)
                · have hw := hw.1 hc_55
                  refine g_aload_n C 0 0 d_MD_anew_95 rfl rfl ?_
                  refine g_getr C 52 14 rfl d_MD_anew_96 em_nc_MD em_sh_MD rfl (by decide) rfl in_MD mw_413 rfl ?_
                  refine g_iload C 4 d_MD_anew_99 rfl ?_
                  refine g_iald C 60 rfl d_MD_anew_101 em_nc_mKeyT em_sh_mKeyT rfl hb_49 ?_
                  refine g_sub [0, 1, 2, 3, 4] rfl ?_
                  exact j_50 (M_14 (60) x4_13.toNatClampNeg) hw
                · have hw := hw.2 hc_55
                  refine g_aload_n C 0 0 d_MD_anew_85 rfl rfl ?_
                  refine g_getr C 52 13 rfl d_MD_anew_86 em_nc_MD em_sh_MD rfl (by decide) rfl in_MD mw_412 rfl ?_
                  refine g_iload C 4 d_MD_anew_89 rfl ?_
                  refine g_iald C 59 rfl d_MD_anew_91 em_nc_mSum em_sh_mSum rfl hb_49 ?_
                  refine g_goto (tgt := 102) C d_MD_anew_92 (by decide) ?_
                  refine g_sub [0, 1, 2, 3, 4] rfl ?_
                  exact j_50 (M_14 (59) x4_13.toNatClampNeg) hw
          exact lp_12 _ (nI 0) M_1 (Nat.lt_succ_self _) h0
        refine g_icmp_ge (tgt := 50) C d_MD_anew_43 (by decide) (fun hc_56 => ?_) (fun hc_56 => ?_)
        · have hw := hw.1 hc_56
          refine g_aload_n C 0 0 d_MD_anew_50 rfl rfl ?_
          refine g_geti C 52 8 rfl d_MD_anew_51 em_nc_MD em_sh_MD rfl (by decide) rfl in_MD mw_407 rfl ?_
          refine g_sub [0, 1, 2] rfl ?_
          exact j_9 (M_1 (52) 8) hw
        · have hw := hw.2 hc_56
          refine g_iload_n C 1 1 d_MD_anew_46 rfl rfl ?_
          refine g_goto (tgt := 54) C d_MD_anew_47 (by decide) ?_
          refine g_sub [0, 1, 2] rfl ?_
          exact j_9 x1 hw
      · have hw := hw.2 hc_8
        refine g_bipush (v := (-2 : Int32)) C d_MD_anew_35 (by decide) ?_
        exact g_iret C hQ rfl d_MD_anew_37 hw
    · have hw := hw.2 hc_7
      refine g_iconst (v := (-1 : Int32)) C d_MD_anew_26 (by decide) ?_
      exact g_iret C hQ rfl d_MD_anew_27 hw
theorem c_MD_anew {l : Launch} {D : va_G} {b0 : Nat} {cT : Nat → ClassId} {ad : Nat → Nat} {post : Int32 → em_M → Prop} {x1 : Int32} {x2 : Int32} {M : em_M}  (hw : wp_MD_anew post x1 x2 M) : Met l y_MD_anew (.code y_MD_anew b_MD_anew 6 (some .int) :: wAll) rm_MD_anew (va_Pc [.ref (ad (52)), .int x1, .int x2] (em_U D b0 cT ad (SH ad) NC M)) (va_Qi post (em_U D b0 cT ad (SH ad) NC) (em_A b0)) 0 0 (em_A b0) :=
  em_met (by decide) rfl (Nat.le_of_ble_eq_true rfl) (fun X C _ _ hQ => v_MD_anew  C hQ hw)
set_option maxHeartbeats 4000000 in
set_option maxRecDepth 100000 in
theorem v_MD_answer {X : em_X} {D : va_G} {b0 : Nat} {cT : Nat → ClassId} {ad : Nat → Nat} {post : Int32 → em_M → Prop} {x1 : Int32} {x2 : Int32} {M : em_M}  (C : em_Cx X D b0 cT R_MD b_MD_answer (some .int) 3 rm_MD_answer) (hQ : xQ X = MQ (xB X) (va_Qi post (em_U D b0 cT ad (SH ad) NC) (em_A b0)) (xA X) (xS X) 0 0 (em_A b0)) (hw : wp_MD_answer post x1 x2 M) : em_G X D b0 cT ad 3 (SH ad) NC 0 0 M 0 [(0, .ref (ad (52))), (1, .int x1), (2, .int x2)] [] := by
  unfold wp_MD_answer at hw
  refine g_aload_n C 0 0 d_MD_answer_0 rfl rfl ?_
  refine g_iconst (v := (nI 0)) C d_MD_answer_1 (by decide) ?_
  refine g_puti C 52 0 rfl ty_MD tyok_MD nm_MD d_MD_answer_2 em_nc_MD em_sh_MD rfl (by decide) rfl in_MD mw_399 rfl rfl rfl rfl rfl ?_
  refine g_nameM (fun M_1 eM_1 => ?_)
  have hw := hw M_1 eM_1
  refine g_iload_n C 1 1 d_MD_answer_5 rfl rfl ?_
  refine g_iconst (v := (nI 0)) C d_MD_answer_6 (by decide) ?_
  refine g_aload_n C 0 0 d_MD_answer_7 rfl rfl ?_
  refine g_geti C 52 8 rfl d_MD_answer_8 em_nc_MD em_sh_MD rfl (by decide) rfl in_MD mw_407 rfl ?_
  refine g_iconst (v := (nI 1)) C d_MD_answer_11 (by decide) ?_
  refine g_isub C d_MD_answer_12 ?_
  refine g_callSi C [.int x1, .int (nI 0), .int ((M_1 (52) 8) - (nI 1))] [] (c_MD_in  hw) (em_cwS C 3 mw_453 mw_454 mw_71 mw_455 rfl rfl (by decide +kernel) (by decide)) rfl rfl (Nat.le_of_ble_eq_true rfl) d_MD_answer_13 (by decide) (fun r_3 M_2 hw => ?_)
  obtain ⟨rfl, hw⟩ := hw
  refine g_if_eq (tgt := 28) C d_MD_answer_16 (by decide) (fun hc_4 => ?_) (fun hc_4 => ?_)
  · have hw := hw.1 hc_4
    refine g_iconst (v := (-1 : Int32)) C d_MD_answer_28 (by decide) ?_
    exact g_iret C hQ rfl d_MD_answer_29 hw
  · have hw := hw.2 hc_4
    refine g_iload_n C 2 2 d_MD_answer_19 rfl rfl ?_
    refine g_iconst (v := (nI 0)) C d_MD_answer_20 (by decide) ?_
    refine g_iconst (v := (nI 3)) C d_MD_answer_21 (by decide) ?_
    refine g_callSi C [.int x2, .int (nI 0), .int (nI 3)] [] (c_MD_in  hw) (em_cwS C 3 mw_453 mw_454 mw_71 mw_455 rfl rfl (by decide +kernel) (by decide)) rfl rfl (Nat.le_of_ble_eq_true rfl) d_MD_answer_22 (by decide) (fun r_6 M_5 hw => ?_)
    obtain ⟨rfl, hw⟩ := hw
    refine g_if_ne (tgt := 30) C d_MD_answer_25 (by decide) (fun hc_7 => ?_) (fun hc_7 => ?_)
    · have hw := hw.1 hc_7
      refine g_iload_n C 2 2 d_MD_answer_30 rfl rfl ?_
      refine g_if_ne (tgt := 43) C d_MD_answer_31 (by decide) (fun hc_8 => ?_) (fun hc_8 => ?_)
      · have hw := hw.1 hc_8
        refine g_iload_n C 2 2 d_MD_answer_43 rfl rfl ?_
        refine g_iconst (v := (nI 1)) C d_MD_answer_44 (by decide) ?_
        refine g_icmp_ne (tgt := 57) C d_MD_answer_45 (by decide) (fun hc_9 => ?_) (fun hc_9 => ?_)
        · have hw := hw.1 hc_9
          refine g_iload_n C 2 2 d_MD_answer_57 rfl rfl ?_
          refine g_iconst (v := (nI 2)) C d_MD_answer_58 (by decide) ?_
          refine g_icmp_ne (tgt := 71) C d_MD_answer_59 (by decide) (fun hc_10 => ?_) (fun hc_10 => ?_)
          · have hw := hw.1 hc_10
            refine g_aload_n C 0 0 d_MD_answer_71 rfl rfl ?_
            refine g_getr C 52 14 rfl d_MD_answer_72 em_nc_MD em_sh_MD rfl (by decide) rfl in_MD mw_413 rfl ?_
            refine g_iload_n C 1 1 d_MD_answer_75 rfl rfl ?_
            obtain ⟨hb_11, hw⟩ := hw
            refine g_iald C 60 rfl d_MD_answer_76 em_nc_mKeyT em_sh_mKeyT rfl hb_11 ?_
            exact g_iret C hQ rfl d_MD_answer_77 hw
          · have hw := hw.2 hc_10
            refine g_aload_n C 0 0 d_MD_answer_62 rfl rfl ?_
            refine g_getr C 52 13 rfl d_MD_answer_63 em_nc_MD em_sh_MD rfl (by decide) rfl in_MD mw_412 rfl ?_
            refine g_iload_n C 1 1 d_MD_answer_66 rfl rfl ?_
            obtain ⟨hb_12, hw⟩ := hw
            refine g_iald C 59 rfl d_MD_answer_67 em_nc_mSum em_sh_mSum rfl hb_12 ?_
            refine g_goto (tgt := 77) C d_MD_answer_68 (by decide) ?_
            exact g_iret C hQ rfl d_MD_answer_77 hw
        · have hw := hw.2 hc_9
          refine g_aload_n C 0 0 d_MD_answer_48 rfl rfl ?_
          refine g_getr C 52 12 rfl d_MD_answer_49 em_nc_MD em_sh_MD rfl (by decide) rfl in_MD mw_411 rfl ?_
          refine g_iload_n C 1 1 d_MD_answer_52 rfl rfl ?_
          obtain ⟨hb_13, hw⟩ := hw
          refine g_iald C 58 rfl d_MD_answer_53 em_nc_mNum em_sh_mNum rfl hb_13 ?_
          refine g_goto (tgt := 77) C d_MD_answer_54 (by decide) ?_
          exact g_iret C hQ rfl d_MD_answer_77 hw
      · have hw := hw.2 hc_8
        refine g_aload_n C 0 0 d_MD_answer_34 rfl rfl ?_
        refine g_getr C 52 11 rfl d_MD_answer_35 em_nc_MD em_sh_MD rfl (by decide) rfl in_MD mw_410 rfl ?_
        refine g_iload_n C 1 1 d_MD_answer_38 rfl rfl ?_
        obtain ⟨hb_14, hw⟩ := hw
        refine g_iald C 57 rfl d_MD_answer_39 em_nc_mObj em_sh_mObj rfl hb_14 ?_
        refine g_goto (tgt := 77) C d_MD_answer_40 (by decide) ?_
        exact g_iret C hQ rfl d_MD_answer_77 hw
    · have hw := hw.2 hc_7
      refine g_iconst (v := (-1 : Int32)) C d_MD_answer_28 (by decide) ?_
      exact g_iret C hQ rfl d_MD_answer_29 hw
theorem c_MD_answer {l : Launch} {D : va_G} {b0 : Nat} {cT : Nat → ClassId} {ad : Nat → Nat} {post : Int32 → em_M → Prop} {x1 : Int32} {x2 : Int32} {M : em_M}  (hw : wp_MD_answer post x1 x2 M) : Met l y_MD_answer (.code y_MD_answer b_MD_answer 3 (some .int) :: wAll) rm_MD_answer (va_Pc [.ref (ad (52)), .int x1, .int x2] (em_U D b0 cT ad (SH ad) NC M)) (va_Qi post (em_U D b0 cT ad (SH ad) NC) (em_A b0)) 0 0 (em_A b0) :=
  em_met (by decide) rfl (Nat.le_of_ble_eq_true rfl) (fun X C _ _ hQ => v_MD_answer  C hQ hw)
set_option maxHeartbeats 4000000 in
set_option maxRecDepth 100000 in
theorem v_MD_told {X : em_X} {D : va_G} {b0 : Nat} {cT : Nat → ClassId} {ad : Nat → Nat} {post : Int32 → em_M → Prop} {x1 : Int32} {M : em_M}  (C : em_Cx X D b0 cT R_MD b_MD_told (some .int) 2 rm_MD_told) (hQ : xQ X = MQ (xB X) (va_Qi post (em_U D b0 cT ad (SH ad) NC) (em_A b0)) (xA X) (xS X) 0 0 (em_A b0)) (hw : wp_MD_told post x1 M) : em_G X D b0 cT ad 2 (SH ad) NC 0 0 M 0 [(0, .ref (ad (52))), (1, .int x1)] [] := by
  unfold wp_MD_told at hw
  refine g_aload_n C 0 0 d_MD_told_0 rfl rfl ?_
  refine g_iconst (v := (nI 0)) C d_MD_told_1 (by decide) ?_
  refine g_puti C 52 0 rfl ty_MD tyok_MD nm_MD d_MD_told_2 em_nc_MD em_sh_MD rfl (by decide) rfl in_MD mw_399 rfl rfl rfl rfl rfl ?_
  refine g_nameM (fun M_1 eM_1 => ?_)
  have hw := hw M_1 eM_1
  refine g_iload_n C 1 1 d_MD_told_5 rfl rfl ?_
  obtain ⟨hwd, hw⟩ := hw
  rcases em_ix x1 (lo := 0) (hi := 9) (by decide) with hs_2 | hs_2 | ⟨jhs_2, hlhs_2, hjhs_2, hs_2⟩
  · have hw := hwd (Or.inl hs_2)
    refine g_tableOut (tgt := 101) C d_MD_told_6 (Or.inl (em_sw0 (by decide) hs_2)) (by decide) ?_
    refine g_iconst (v := (-1 : Int32)) C d_MD_told_101 (by decide) ?_
    exact g_iret C hQ rfl d_MD_told_102 hw
  · have hw := hwd (Or.inr hs_2)
    refine g_tableOut (tgt := 101) C d_MD_told_6 (Or.inr (em_sw1 (by decide) hs_2)) (by decide) ?_
    refine g_iconst (v := (-1 : Int32)) C d_MD_told_101 (by decide) ?_
    exact g_iret C hQ rfl d_MD_told_102 hw
  · have hw := hw
    rcases (show jhs_2 = 0 ∨ jhs_2 = 1 ∨ jhs_2 = 2 ∨ jhs_2 = 3 ∨ jhs_2 = 4 ∨ jhs_2 = 5 ∨ jhs_2 = 6 ∨ jhs_2 = 7 ∨ jhs_2 = 8 by omega) with rfl | rfl | rfl | rfl | rfl | rfl | rfl | rfl | rfl
    · have hw := hw.1 hs_2
      refine g_tableIn (tgt := 56) (off := 50) C d_MD_told_6 (by rw [hs_2]; decide) (by rw [hs_2]; decide) (by rw [hs_2]; rfl) (by decide) ?_
      refine g_aload_n C 0 0 d_MD_told_56 rfl rfl ?_
      refine g_geti C 52 16 rfl d_MD_told_57 em_nc_MD em_sh_MD rfl (by decide) rfl in_MD mw_415 rfl ?_
      exact g_iret C hQ rfl d_MD_told_60 hw
    · have hw := hw.2.1 hs_2
      refine g_tableIn (tgt := 61) (off := 55) C d_MD_told_6 (by rw [hs_2]; decide) (by rw [hs_2]; decide) (by rw [hs_2]; rfl) (by decide) ?_
      refine g_aload_n C 0 0 d_MD_told_61 rfl rfl ?_
      refine g_geti C 52 17 rfl d_MD_told_62 em_nc_MD em_sh_MD rfl (by decide) rfl in_MD mw_416 rfl ?_
      exact g_iret C hQ rfl d_MD_told_65 hw
    · have hw := hw.2.2.1 hs_2
      refine g_tableIn (tgt := 66) (off := 60) C d_MD_told_6 (by rw [hs_2]; decide) (by rw [hs_2]; decide) (by rw [hs_2]; rfl) (by decide) ?_
      refine g_aload_n C 0 0 d_MD_told_66 rfl rfl ?_
      refine g_geti C 52 18 rfl d_MD_told_67 em_nc_MD em_sh_MD rfl (by decide) rfl in_MD mw_417 rfl ?_
      exact g_iret C hQ rfl d_MD_told_70 hw
    · have hw := hw.2.2.2.1 hs_2
      refine g_tableIn (tgt := 71) (off := 65) C d_MD_told_6 (by rw [hs_2]; decide) (by rw [hs_2]; decide) (by rw [hs_2]; rfl) (by decide) ?_
      refine g_aload_n C 0 0 d_MD_told_71 rfl rfl ?_
      refine g_geti C 52 19 rfl d_MD_told_72 em_nc_MD em_sh_MD rfl (by decide) rfl in_MD mw_418 rfl ?_
      exact g_iret C hQ rfl d_MD_told_75 hw
    · have hw := hw.2.2.2.2.1 hs_2
      refine g_tableIn (tgt := 76) (off := 70) C d_MD_told_6 (by rw [hs_2]; decide) (by rw [hs_2]; decide) (by rw [hs_2]; rfl) (by decide) ?_
      refine g_aload_n C 0 0 d_MD_told_76 rfl rfl ?_
      refine g_geti C 52 20 rfl d_MD_told_77 em_nc_MD em_sh_MD rfl (by decide) rfl in_MD mw_419 rfl ?_
      exact g_iret C hQ rfl d_MD_told_80 hw
    · have hw := hw.2.2.2.2.2.1 hs_2
      refine g_tableIn (tgt := 81) (off := 75) C d_MD_told_6 (by rw [hs_2]; decide) (by rw [hs_2]; decide) (by rw [hs_2]; rfl) (by decide) ?_
      refine g_aload_n C 0 0 d_MD_told_81 rfl rfl ?_
      refine g_geti C 52 21 rfl d_MD_told_82 em_nc_MD em_sh_MD rfl (by decide) rfl in_MD mw_420 rfl ?_
      exact g_iret C hQ rfl d_MD_told_85 hw
    · have hw := hw.2.2.2.2.2.2.1 hs_2
      refine g_tableIn (tgt := 86) (off := 80) C d_MD_told_6 (by rw [hs_2]; decide) (by rw [hs_2]; decide) (by rw [hs_2]; rfl) (by decide) ?_
      refine g_aload_n C 0 0 d_MD_told_86 rfl rfl ?_
      refine g_geti C 52 22 rfl d_MD_told_87 em_nc_MD em_sh_MD rfl (by decide) rfl in_MD mw_421 rfl ?_
      exact g_iret C hQ rfl d_MD_told_90 hw
    · have hw := hw.2.2.2.2.2.2.2.1 hs_2
      refine g_tableIn (tgt := 91) (off := 85) C d_MD_told_6 (by rw [hs_2]; decide) (by rw [hs_2]; decide) (by rw [hs_2]; rfl) (by decide) ?_
      refine g_aload_n C 0 0 d_MD_told_91 rfl rfl ?_
      refine g_geti C 52 23 rfl d_MD_told_92 em_nc_MD em_sh_MD rfl (by decide) rfl in_MD mw_422 rfl ?_
      exact g_iret C hQ rfl d_MD_told_95 hw
    · have hw := hw.2.2.2.2.2.2.2.2 hs_2
      refine g_tableIn (tgt := 96) (off := 90) C d_MD_told_6 (by rw [hs_2]; decide) (by rw [hs_2]; decide) (by rw [hs_2]; rfl) (by decide) ?_
      refine g_aload_n C 0 0 d_MD_told_96 rfl rfl ?_
      refine g_geti C 52 24 rfl d_MD_told_97 em_nc_MD em_sh_MD rfl (by decide) rfl in_MD mw_423 rfl ?_
      exact g_iret C hQ rfl d_MD_told_100 hw
theorem c_MD_told {l : Launch} {D : va_G} {b0 : Nat} {cT : Nat → ClassId} {ad : Nat → Nat} {post : Int32 → em_M → Prop} {x1 : Int32} {M : em_M}  (hw : wp_MD_told post x1 M) : Met l y_MD_told (.code y_MD_told b_MD_told 2 (some .int) :: wAll) rm_MD_told (va_Pc [.ref (ad (52)), .int x1] (em_U D b0 cT ad (SH ad) NC M)) (va_Qi post (em_U D b0 cT ad (SH ad) NC) (em_A b0)) 0 0 (em_A b0) :=
  em_met (by decide) rfl (Nat.le_of_ble_eq_true rfl) (fun X C _ _ hQ => v_MD_told  C hQ hw)
set_option maxHeartbeats 4000000 in
set_option maxRecDepth 100000 in
theorem v_MD_count {X : em_X} {D : va_G} {b0 : Nat} {cT : Nat → ClassId} {ad : Nat → Nat} {post : Int32 → em_M → Prop} {x1 : Int32} {M : em_M}  (C : em_Cx X D b0 cT R_MD b_MD_count (some .int) 5 rm_MD_count) (hQ : xQ X = MQ (xB X) (va_Qi post (em_U D b0 cT ad (SH ad) NC) (em_A b0)) (xA X) (xS X) 0 0 (em_A b0)) (hw : wp_MD_count post x1 M) : em_G X D b0 cT ad 5 (SH ad) NC 0 0 M 0 [(0, .ref (ad (52))), (1, .int x1)] [] := by
  unfold wp_MD_count at hw
  refine g_aload_n C 0 0 d_MD_count_0 rfl rfl ?_
  refine g_iconst (v := (nI 0)) C d_MD_count_1 (by decide) ?_
  refine g_puti C 52 0 rfl ty_MD tyok_MD nm_MD d_MD_count_2 em_nc_MD em_sh_MD rfl (by decide) rfl in_MD mw_399 rfl rfl rfl rfl rfl ?_
  refine g_nameM (fun M_1 eM_1 => ?_)
  have hw := hw M_1 eM_1
  refine g_iload_n C 1 1 d_MD_count_5 rfl rfl ?_
  refine g_iconst (v := (nI 0)) C d_MD_count_6 (by decide) ?_
  refine g_bipush (v := (nI 17)) C d_MD_count_7 (by decide) ?_
  refine g_callSi C [.int x1, .int (nI 0), .int (nI 17)] [] (c_MD_in  hw) (em_cwS C 3 mw_453 mw_454 mw_71 mw_455 rfl rfl (by decide +kernel) (by decide)) rfl rfl (Nat.le_of_ble_eq_true rfl) d_MD_count_9 (by decide) (fun r_3 M_2 hw => ?_)
  obtain ⟨rfl, hw⟩ := hw
  refine g_if_ne (tgt := 17) C d_MD_count_12 (by decide) (fun hc_4 => ?_) (fun hc_4 => ?_)
  · have hw := hw.1 hc_4
    refine g_iload_n C 1 1 d_MD_count_17 rfl rfl ?_
    refine g_bipush (v := (nI 12)) C d_MD_count_18 (by decide) ?_
    refine g_icmp_ge (tgt := 29) C d_MD_count_20 (by decide) (fun hc_5 => ?_) (fun hc_5 => ?_)
    · have hw := hw.1 hc_5
      refine g_iload_n C 1 1 d_MD_count_29 rfl rfl ?_
      refine g_bipush (v := (nI 15)) C d_MD_count_30 (by decide) ?_
      refine g_icmp_ne (tgt := 40) C d_MD_count_32 (by decide) (fun hc_6 => ?_) (fun hc_6 => ?_)
      · have hw := hw.1 hc_6
        refine g_iload_n C 1 1 d_MD_count_40 rfl rfl ?_
        refine g_bipush (v := (nI 16)) C d_MD_count_41 (by decide) ?_
        refine g_icmp_ne (tgt := 51) C d_MD_count_43 (by decide) (fun hc_7 => ?_) (fun hc_7 => ?_)
        · have hw := hw.1 hc_7
          refine g_iconst (v := (nI 0)) C d_MD_count_51 (by decide) ?_
          refine g_istore_n (lv' := [(2, .int (nI 0)), (0, .ref (ad (52))), (1, .int x1)]) C 2 d_MD_count_52 rfl (by decide) rfl ?_
          refine g_iconst (v := (nI 0)) C d_MD_count_53 (by decide) ?_
          refine g_istore_n (lv' := [(3, .int (nI 0)), (2, .int (nI 0)), (0, .ref (ad (52))), (1, .int x1)]) C 3 d_MD_count_54 rfl (by decide) rfl ?_
          obtain ⟨I_8, mu_8, h0, hw⟩ := hw
          refine g_sub [2, 3, 1, 0] rfl ?_
          have lp_8 : ∀ (n_8 : Nat) (x2_9 : Int32) (x3_10 : Int32) , mu_8 x2_9 x3_10 < n_8 → I_8 x2_9 x3_10 → em_G X D b0 cT ad 5 (SH ad) NC 0 0 M_1 55 [(0, .ref (ad (52))), (1, .int x1), (2, .int x2_9), (3, .int x3_10)] [] := by
            intro n_8
            induction n_8 with
            | zero => intro x2_9 x3_10 h; exact absurd h (Nat.not_lt_zero _)
            | succ n_8 ih_8 =>
              intro x2_9 x3_10 hn_8 hi
              have hw := hw x2_9 x3_10 hi
              refine g_iload_n C 3 3 d_MD_count_55 rfl rfl ?_
              refine g_bipush (v := (nI 12)) C d_MD_count_56 (by decide) ?_
              obtain ⟨J_11, hJ_11, hw⟩ := em_jn0 hw
              have j_11 : J_11 → em_G X D b0 cT ad 5 (SH ad) NC 0 0 M_1 120 [(0, .ref (ad (52))), (1, .int x1), (2, .int x2_9), (3, .int x3_10)] [] := by
                intro  hw
                have hw := hJ_11  hw
                refine g_iconst (v := (nI 0)) C d_MD_count_120 (by decide) ?_
                refine g_istore_n (lv' := [(3, .int (nI 0)), (0, .ref (ad (52))), (1, .int x1), (2, .int x2_9)]) C 3 d_MD_count_121 rfl (by decide) rfl ?_
                obtain ⟨I_31, mu_31, h0, hw⟩ := hw
                refine g_sub [1, 2, 3, 0] rfl ?_
                have lp_31 : ∀ (n_31 : Nat) (x2_32 : Int32) (x3_33 : Int32) , mu_31 x2_32 x3_33 < n_31 → I_31 x2_32 x3_33 → em_G X D b0 cT ad 5 (SH ad) NC 0 0 M_1 122 [(0, .ref (ad (52))), (1, .int x1), (2, .int x2_32), (3, .int x3_33)] [] := by
                  intro n_31
                  induction n_31 with
                  | zero => intro x2_32 x3_33 h; exact absurd h (Nat.not_lt_zero _)
                  | succ n_31 ih_31 =>
                    intro x2_32 x3_33 hn_31 hi
                    have hw := hw x2_32 x3_33 hi
                    refine g_iload_n C 3 3 d_MD_count_122 rfl rfl ?_
                    refine g_sipush (v := (nI 512)) C d_MD_count_123 (by decide) ?_
                    refine g_icmp_ge (tgt := 157) C d_MD_count_126 (by decide) (fun hc_34 => ?_) (fun hc_34 => ?_)
                    · have hw := hw.1 hc_34
                      refine g_iload_n C 2 2 d_MD_count_157 rfl rfl ?_
                      exact g_iret C hQ rfl d_MD_count_158 hw
                    · have hw := hw.2 hc_34
                      refine g_iload_n C 1 1 d_MD_count_129 rfl rfl ?_
                      refine g_bipush (v := (nI 17)) C d_MD_count_130 (by decide) ?_
                      refine g_icmp_ne (tgt := 157) C d_MD_count_132 (by decide) (fun hc_35 => ?_) (fun hc_35 => ?_)
                      · have hw := hw.1 hc_35
                        refine g_iload_n C 2 2 d_MD_count_157 rfl rfl ?_
                        exact g_iret C hQ rfl d_MD_count_158 hw
                      · have hw := hw.2 hc_35
                        refine g_aload_n C 0 0 d_MD_count_135 rfl rfl ?_
                        refine g_iload_n C 3 3 d_MD_count_136 rfl rfl ?_
                        refine g_callVi C 52 rfl [.int x3_33] [] (c_MD_isSomewhere  hw) (em_cwV C 1 mw_560 mw_561 mw_62 mw_71 mw_562 rfl rfl (by decide +kernel) (by decide)) em_nc_MD em_sh_MD rfl rfl rfl (Nat.le_of_ble_eq_true rfl) d_MD_count_137 (by decide) (fun r_37 M_36 hw => ?_)
                        obtain ⟨rfl, hw⟩ := hw
                        obtain ⟨J_38, hJ_38, hw⟩ := em_jn1 hw
                        have j_38 : ∀ (z_40 : Int32) , J_38 z_40 → em_G X D b0 cT ad 5 (SH ad) NC 0 0 M_1 150 [(0, .ref (ad (52))), (1, .int x1), (2, .int x2_32), (3, .int x3_33)] [.int z_40] := by
                          intro z_40 hw
                          have hw := hJ_38 z_40 hw
                          refine g_istore_n (lv' := [(2, .int z_40), (0, .ref (ad (52))), (1, .int x1), (3, .int x3_33)]) C 2 d_MD_count_150 rfl (by decide) rfl ?_
                          obtain ⟨x3_41, ex3_41⟩ : ∃ y : Int32, y = x3_33 + nI 1 := ⟨_, rfl⟩
                          have hw := hw x3_41 ex3_41
                          refine g_iinc (v := x3_41) (lv' := [(3, .int x3_41), (2, .int z_40), (0, .ref (ad (52))), (1, .int x1)]) C 3 d_MD_count_151 rfl (by rw [ex3_41]; first | rfl | (congr 1)) (by decide) rfl ?_
                          refine g_goto (tgt := 122) C d_MD_count_154 (by decide) ?_
                          refine g_sub [2, 3, 1, 0] rfl ?_
                          exact ih_31 z_40 x3_41 (Nat.lt_of_lt_of_le hw.2 (Nat.le_of_lt_succ hn_31)) hw.1
                        refine g_if_eq (tgt := 149) C d_MD_count_140 (by decide) (fun hc_42 => ?_) (fun hc_42 => ?_)
                        · have hw := hw.1 hc_42
                          refine g_iload_n C 2 2 d_MD_count_149 rfl rfl ?_
                          refine g_sub [0, 1, 2, 3] rfl ?_
                          exact j_38 x2_32 hw
                        · have hw := hw.2 hc_42
                          refine g_iload_n C 2 2 d_MD_count_143 rfl rfl ?_
                          refine g_iconst (v := (nI 1)) C d_MD_count_144 (by decide) ?_
                          refine g_iadd C d_MD_count_145 ?_
                          refine g_goto (tgt := 150) C d_MD_count_146 (by decide) ?_
                          refine g_sub [0, 1, 2, 3] rfl ?_
                          exact j_38 (x2_32 + (nI 1)) hw
                exact lp_31 _ x2_9 (nI 0) (Nat.lt_succ_self _) h0
              refine g_icmp_ge (tgt := 120) C d_MD_count_58 (by decide) (fun hc_43 => ?_) (fun hc_43 => ?_)
              · have hw := hw.1 hc_43
                refine g_sub [0, 1, 2, 3] rfl ?_
                exact j_11  hw
              · have hw := hw.2 hc_43
                refine g_iload_n C 1 1 d_MD_count_61 rfl rfl ?_
                refine g_bipush (v := (nI 15)) C d_MD_count_62 (by decide) ?_
                refine g_icmp_ge (tgt := 120) C d_MD_count_64 (by decide) (fun hc_44 => ?_) (fun hc_44 => ?_)
                · have hw := hw.1 hc_44
                  refine g_sub [0, 1, 2, 3] rfl ?_
                  exact j_11  hw
                · have hw := hw.2 hc_44
                  refine g_iload_n C 1 1 d_MD_count_67 rfl rfl ?_
                  refine g_bipush (v := (nI 12)) C d_MD_count_68 (by decide) ?_
                  obtain ⟨J_45, hJ_45, hw⟩ := em_jn1 hw
                  have j_45 : ∀ (z_51 : Int32) , J_45 z_51 → em_G X D b0 cT ad 5 (SH ad) NC 0 0 M_1 99 [(0, .ref (ad (52))), (1, .int x1), (2, .int x2_9), (3, .int x3_10)] [.int z_51] := by
                    intro z_51 hw
                    have hw := hJ_45 z_51 hw
                    refine g_istore (lv' := [(4, .int z_51), (0, .ref (ad (52))), (1, .int x1), (2, .int x2_9), (3, .int x3_10)]) C d_MD_count_99 (by decide) rfl ?_
                    refine g_iload C 0 d_MD_count_101 rfl ?_
                    obtain ⟨J_52, hJ_52, hw⟩ := em_jn1 hw
                    have j_52 : ∀ (z_54 : Int32) , J_52 z_54 → em_G X D b0 cT ad 5 (SH ad) NC 0 0 M_1 113 [(0, .ref (ad (52))), (1, .int x1), (2, .int x2_9), (3, .int x3_10), (4, .int z_51)] [.int z_54] := by
                      intro z_54 hw
                      have hw := hJ_52 z_54 hw
                      refine g_istore_n (lv' := [(2, .int z_54), (0, .ref (ad (52))), (1, .int x1), (3, .int x3_10), (4, .int z_51)]) C 2 d_MD_count_113 rfl (by decide) rfl ?_
                      obtain ⟨x3_55, ex3_55⟩ : ∃ y : Int32, y = x3_10 + nI 1 := ⟨_, rfl⟩
                      have hw := hw x3_55 ex3_55
                      refine g_iinc (v := x3_55) (lv' := [(3, .int x3_55), (2, .int z_54), (0, .ref (ad (52))), (1, .int x1), (4, .int z_51)]) C 3 d_MD_count_114 rfl (by rw [ex3_55]; first | rfl | (congr 1)) (by decide) rfl ?_
                      refine g_goto (tgt := 55) C d_MD_count_117 (by decide) ?_
                      refine g_sub [2, 3, 1, 0] rfl ?_
                      exact ih_8 z_54 x3_55 (Nat.lt_of_lt_of_le hw.2 (Nat.le_of_lt_succ hn_8)) hw.1
                    refine g_if_eq (tgt := 112) C d_MD_count_103 (by decide) (fun hc_56 => ?_) (fun hc_56 => ?_)
                    · have hw := hw.1 hc_56
                      refine g_iload_n C 3 2 d_MD_count_112 rfl rfl ?_
                      refine g_sub [1, 2, 3, 4, 0] rfl ?_
                      exact j_52 x2_9 hw
                    · have hw := hw.2 hc_56
                      refine g_iload_n C 3 2 d_MD_count_106 rfl rfl ?_
                      refine g_iconst (v := (nI 1)) C d_MD_count_107 (by decide) ?_
                      refine g_iadd C d_MD_count_108 ?_
                      refine g_goto (tgt := 113) C d_MD_count_109 (by decide) ?_
                      refine g_sub [1, 2, 3, 4, 0] rfl ?_
                      exact j_52 (x2_9 + (nI 1)) hw
                  refine g_icmp_ne (tgt := 81) C d_MD_count_70 (by decide) (fun hc_57 => ?_) (fun hc_57 => ?_)
                  · have hw := hw.1 hc_57
                    refine g_aload_n C 0 0 d_MD_count_81 rfl rfl ?_
                    refine g_getr C 52 3 rfl d_MD_count_82 em_nc_MD em_sh_MD rfl (by decide) rfl in_MD mw_402 rfl ?_
                    refine g_iload_n C 3 3 d_MD_count_85 rfl rfl ?_
                    obtain ⟨hb_58, hw⟩ := hw
                    refine g_iald C 55 rfl d_MD_count_86 em_nc_mHow em_sh_mHow rfl hb_58 ?_
                    refine g_iload_n C 1 1 d_MD_count_87 rfl rfl ?_
                    refine g_bipush (v := (nI 11)) C d_MD_count_88 (by decide) ?_
                    refine g_isub C d_MD_count_90 ?_
                    refine g_icmp_ne (tgt := 98) C d_MD_count_91 (by decide) (fun hc_59 => ?_) (fun hc_59 => ?_)
                    · have hw := hw.1 hc_59
                      refine g_iconst (v := (nI 0)) C d_MD_count_98 (by decide) ?_
                      refine g_sub [0, 1, 2, 3] rfl ?_
                      exact j_45 (nI 0) hw
                    · have hw := hw.2 hc_59
                      refine g_iconst (v := (nI 1)) C d_MD_count_94 (by decide) ?_
                      refine g_goto (tgt := 99) C d_MD_count_95 (by decide) ?_
                      refine g_sub [0, 1, 2, 3] rfl ?_
                      exact j_45 (nI 1) hw
                  · have hw := hw.2 hc_57
                    refine g_aload_n C 0 0 d_MD_count_73 rfl rfl ?_
                    refine g_iload_n C 3 3 d_MD_count_74 rfl rfl ?_
                    refine g_callVi C 52 rfl [.int x3_10] [] (c_MD_isAsked  hw) (em_cwV C 1 mw_496 mw_497 mw_46 mw_71 mw_498 rfl rfl (by decide +kernel) (by decide)) em_nc_MD em_sh_MD rfl rfl rfl (Nat.le_of_ble_eq_true rfl) d_MD_count_75 (by decide) (fun r_61 M_60 hw => ?_)
                    obtain ⟨rfl, hw⟩ := hw
                    refine g_goto (tgt := 99) C d_MD_count_78 (by decide) ?_
                    refine g_sub [0, 1, 2, 3] rfl ?_
                    exact j_45 r_61 hw
          exact lp_8 _ (nI 0) (nI 0) (Nat.lt_succ_self _) h0
        · have hw := hw.2 hc_7
          refine g_aload_n C 0 0 d_MD_count_46 rfl rfl ?_
          refine g_geti C 52 8 rfl d_MD_count_47 em_nc_MD em_sh_MD rfl (by decide) rfl in_MD mw_407 rfl ?_
          exact g_iret C hQ rfl d_MD_count_50 hw
      · have hw := hw.2 hc_6
        refine g_aload_n C 0 0 d_MD_count_35 rfl rfl ?_
        refine g_geti C 52 5 rfl d_MD_count_36 em_nc_MD em_sh_MD rfl (by decide) rfl in_MD mw_404 rfl ?_
        exact g_iret C hQ rfl d_MD_count_39 hw
    · have hw := hw.2 hc_5
      refine g_aload_n C 0 0 d_MD_count_23 rfl rfl ?_
      refine g_iload_n C 1 1 d_MD_count_24 rfl rfl ?_
      refine g_callVi C 52 rfl [.int x1] [] (c_MD_size  hw) (em_cwV C 1 mw_459 mw_460 mw_43 mw_71 mw_461 rfl rfl (by decide +kernel) (by decide)) em_nc_MD em_sh_MD rfl rfl rfl (Nat.le_of_ble_eq_true rfl) d_MD_count_25 (by decide) (fun r_63 M_62 hw => ?_)
      obtain ⟨rfl, hw⟩ := hw
      exact g_iret C hQ rfl d_MD_count_28 hw
  · have hw := hw.2 hc_4
    refine g_iconst (v := (-1 : Int32)) C d_MD_count_15 (by decide) ?_
    exact g_iret C hQ rfl d_MD_count_16 hw
theorem c_MD_count {l : Launch} {D : va_G} {b0 : Nat} {cT : Nat → ClassId} {ad : Nat → Nat} {post : Int32 → em_M → Prop} {x1 : Int32} {M : em_M}  (hw : wp_MD_count post x1 M) : Met l y_MD_count (.code y_MD_count b_MD_count 5 (some .int) :: wAll) rm_MD_count (va_Pc [.ref (ad (52)), .int x1] (em_U D b0 cT ad (SH ad) NC M)) (va_Qi post (em_U D b0 cT ad (SH ad) NC) (em_A b0)) 0 0 (em_A b0) :=
  em_met (by decide) rfl (Nat.le_of_ble_eq_true rfl) (fun X C _ _ hQ => v_MD_count  C hQ hw)
