/-! THE WALKS, written by wip/gen -/
set_option maxHeartbeats 4000000 in
set_option maxRecDepth 100000 in
theorem v_SL_blocks {X : em_X} {D : va_G} {b0 : Nat} {cT : Nat → ClassId} {ad : Nat → Nat} {post : Int32 → Prop} {i0 : Nat} {M : em_M} (hi0 : i0 < 12) (C : em_Cx X D b0 cT R_SL b_SL_blocks (some .int) 1 rm_SL_blocks) (hQ : xQ X = MQ (xB X) (va_Qi (fun r M1 => M = M1 ∧ post r) (em_U D b0 cT ad (SH ad) NC) (em_A b0)) (xA X) (xS X) 0 0 (em_A b0)) (hw : wp_SL_blocks post i0 M) : em_G X D b0 cT ad 1 (SH ad) NC 0 0 M 0 [(0, .ref (ad (4 + 3 * i0)))] [] := by
  unfold wp_SL_blocks at hw
  refine g_aload_n C 0 0 d_SL_blocks_0 rfl rfl ?_
  refine g_geti C (4 + 3 * i0) 2 rfl d_SL_blocks_1 (em_nc_SL hi0) (em_sh_SL hi0) rfl (by decide) rfl in_SL mw_94 rfl ?_
  refine g_bipush (v := (nI 8)) C d_SL_blocks_4 (by decide) ?_
  refine g_iadd C d_SL_blocks_6 ?_
  refine g_iconst (v := (nI 1)) C d_SL_blocks_7 (by decide) ?_
  refine g_isub C d_SL_blocks_8 ?_
  refine g_bipush (v := (nI 8)) C d_SL_blocks_9 (by decide) ?_
  refine g_idiv C d_SL_blocks_11 (by decide) ?_
  exact g_iret C hQ rfl d_SL_blocks_12 ⟨rfl, hw⟩
theorem c_SL_blocks {l : Launch} {D : va_G} {b0 : Nat} {cT : Nat → ClassId} {ad : Nat → Nat} {post : Int32 → Prop} {i0 : Nat} {M : em_M} (hi0 : i0 < 12) (hw : wp_SL_blocks post i0 M) : Met l y_SL_blocks (.code y_SL_blocks b_SL_blocks 1 (some .int) :: wAll) rm_SL_blocks (va_Pc [.ref (ad (4 + 3 * i0))] (em_U D b0 cT ad (SH ad) NC M)) (va_Qi (fun r M1 => M = M1 ∧ post r) (em_U D b0 cT ad (SH ad) NC) (em_A b0)) 0 0 (em_A b0) :=
  em_met (by decide) rfl (Nat.le_of_ble_eq_true rfl) (fun X C _ _ hQ => v_SL_blocks hi0 C hQ hw)
set_option maxHeartbeats 4000000 in
set_option maxRecDepth 100000 in
theorem v_SF_objectsInSomeList {X : em_X} {D : va_G} {b0 : Nat} {cT : Nat → ClassId} {ad : Nat → Nat} {post : Int32 → Prop}  {M : em_M}  (C : em_Cx X D b0 cT R_SF b_SF_objectsInSomeList (some .int) 3 rm_SF_objectsInSomeList) (hQ : xQ X = MQ (xB X) (va_Qi (fun r M1 => M = M1 ∧ post r) (em_U D b0 cT ad (SH ad) NC) (em_A b0)) (xA X) (xS X) 0 0 (em_A b0)) (hw : wp_SF_objectsInSomeList post  M) : em_G X D b0 cT ad 3 (SH ad) NC 0 0 M 0 [(0, .ref (ad (1)))] [] := by
  unfold wp_SF_objectsInSomeList at hw
  refine g_iconst (v := (nI 0)) C d_SF_objectsInSomeList_0 (by decide) ?_
  refine g_istore_n (lv' := [(1, .int (nI 0)), (0, .ref (ad (1)))]) C 1 d_SF_objectsInSomeList_1 rfl (by decide) rfl ?_
  refine g_iconst (v := (nI 0)) C d_SF_objectsInSomeList_2 (by decide) ?_
  refine g_istore_n (lv' := [(2, .int (nI 0)), (1, .int (nI 0)), (0, .ref (ad (1)))]) C 2 d_SF_objectsInSomeList_3 rfl (by decide) rfl ?_
  obtain ⟨I_1, mu_1, h0, hw⟩ := hw
  refine g_sub [2, 1, 0] rfl ?_
  have lp_1 : ∀ (n_1 : Nat) (x1_2 : Int32) (x2_3 : Int32) , mu_1 x1_2 x2_3 < n_1 → I_1 x1_2 x2_3 → em_G X D b0 cT ad 3 (SH ad) NC 0 0 M 4 [(0, .ref (ad (1))), (1, .int x1_2), (2, .int x2_3)] [] := by
    intro n_1
    induction n_1 with
    | zero => intro x1_2 x2_3 h; exact absurd h (Nat.not_lt_zero _)
    | succ n_1 ih_1 =>
      intro x1_2 x2_3 hn_1 hi
      have hw := hw x1_2 x2_3 hi
      refine g_iload_n C 2 2 d_SF_objectsInSomeList_4 rfl rfl ?_
      refine g_sipush (v := (nI 512)) C d_SF_objectsInSomeList_5 (by decide) ?_
      refine g_icmp_ge (tgt := 28) C d_SF_objectsInSomeList_8 (by decide) (fun hc_4 => ?_) (fun hc_4 => ?_)
      · have hw := hw.1 hc_4
        refine g_iload_n C 1 1 d_SF_objectsInSomeList_28 rfl rfl ?_
        exact g_iret C hQ rfl d_SF_objectsInSomeList_29 ⟨rfl, hw⟩
      · have hw := hw.2 hc_4
        refine g_aload_n C 0 0 d_SF_objectsInSomeList_11 rfl rfl ?_
        refine g_iload_n C 2 2 d_SF_objectsInSomeList_12 rfl rfl ?_
        refine g_callVi C 1 rfl [.int x2_3] [] (c_SF_has  hw) (em_cwV C 1 mw_365 mw_366 mw_37 mw_65 mw_367 rfl rfl (by decide +kernel) (by decide)) em_nc_SF em_sh_SF rfl rfl rfl (Nat.le_of_ble_eq_true rfl) d_SF_objectsInSomeList_13 (by decide) (fun r_6 M_5 hw => ?_)
        obtain ⟨rfl, hw⟩ := hw
        obtain ⟨J_7, hJ_7, hw⟩ := em_jn1 hw
        have j_7 : ∀ (x1_10 : Int32) , J_7 x1_10 → em_G X D b0 cT ad 3 (SH ad) NC 0 0 M 22 [(0, .ref (ad (1))), (1, .int x1_10), (2, .int x2_3)] [] := by
          intro x1_10 hw
          have hw := hJ_7 x1_10 hw
          obtain ⟨x2_11, ex2_11⟩ : ∃ y : Int32, y = x2_3 + nI 1 := ⟨_, rfl⟩
          have hw := hw x2_11 ex2_11
          refine g_iinc (v := x2_11) (lv' := [(2, .int x2_11), (0, .ref (ad (1))), (1, .int x1_10)]) C 2 d_SF_objectsInSomeList_22 rfl (by rw [ex2_11]; first | rfl | (congr 1)) (by decide) rfl ?_
          refine g_goto (tgt := 4) C d_SF_objectsInSomeList_25 (by decide) ?_
          refine g_sub [1, 2, 0] rfl ?_
          exact ih_1 x1_10 x2_11 (Nat.lt_of_lt_of_le hw.2 (Nat.le_of_lt_succ hn_1)) hw.1
        refine g_if_eq (tgt := 22) C d_SF_objectsInSomeList_16 (by decide) (fun hc_12 => ?_) (fun hc_12 => ?_)
        · have hw := hw.1 hc_12
          refine g_sub [0, 1, 2] rfl ?_
          exact j_7 x1_2 hw
        · have hw := hw.2 hc_12
          obtain ⟨x1_13, ex1_13⟩ : ∃ y : Int32, y = x1_2 + nI 1 := ⟨_, rfl⟩
          have hw := hw x1_13 ex1_13
          refine g_iinc (v := x1_13) (lv' := [(1, .int x1_13), (0, .ref (ad (1))), (2, .int x2_3)]) C 1 d_SF_objectsInSomeList_19 rfl (by rw [ex1_13]; first | rfl | (congr 1)) (by decide) rfl ?_
          refine g_sub [1, 0, 2] rfl ?_
          exact j_7 x1_13 hw
  exact lp_1 _ (nI 0) (nI 0) (Nat.lt_succ_self _) h0
theorem c_SF_objectsInSomeList {l : Launch} {D : va_G} {b0 : Nat} {cT : Nat → ClassId} {ad : Nat → Nat} {post : Int32 → Prop}  {M : em_M}  (hw : wp_SF_objectsInSomeList post  M) : Met l y_SF_objectsInSomeList (.code y_SF_objectsInSomeList b_SF_objectsInSomeList 3 (some .int) :: wAll) rm_SF_objectsInSomeList (va_Pc [.ref (ad (1))] (em_U D b0 cT ad (SH ad) NC M)) (va_Qi (fun r M1 => M = M1 ∧ post r) (em_U D b0 cT ad (SH ad) NC) (em_A b0)) 0 0 (em_A b0) :=
  em_met (by decide) rfl (Nat.le_of_ble_eq_true rfl) (fun X C _ _ hQ => v_SF_objectsInSomeList  C hQ hw)
set_option maxHeartbeats 4000000 in
set_option maxRecDepth 100000 in
theorem v_BE_isWithin {X : em_X} {D : va_G} {b0 : Nat} {cT : Nat → ClassId} {ad : Nat → Nat} {post : Int32 → Prop} {x0 : Int32} {x1 : Int32} {x2 : Int32} {M : em_M}  (C : em_Cx X D b0 cT R_BE b_BE_isWithin (some .boolean) 3 rm_BE_isWithin) (hQ : xQ X = MQ (xB X) (va_Qi (fun r M1 => M = M1 ∧ post r) (em_U D b0 cT ad (SH ad) NC) (em_A b0)) (xA X) (xS X) 0 0 (em_A b0)) (hw : wp_BE_isWithin post x0 x1 x2 M) : em_G X D b0 cT ad 3 (SH ad) NC 0 0 M 0 [(0, .int x0), (1, .int x1), (2, .int x2)] [] := by
  unfold wp_BE_isWithin at hw
  refine g_iload_n C 0 0 d_BE_isWithin_0 rfl rfl ?_
  refine g_iload_n C 1 1 d_BE_isWithin_1 rfl rfl ?_
  refine g_icmp_lt (tgt := 14) C d_BE_isWithin_2 (by decide) (fun hc_1 => ?_) (fun hc_1 => ?_)
  · have hw := hw.1 hc_1
    refine g_iconst (v := (nI 0)) C d_BE_isWithin_14 (by decide) ?_
    exact g_zret C hQ rfl rfl d_BE_isWithin_15 ⟨rfl, hw⟩
  · have hw := hw.2 hc_1
    refine g_iload_n C 0 0 d_BE_isWithin_5 rfl rfl ?_
    refine g_iload_n C 2 2 d_BE_isWithin_6 rfl rfl ?_
    refine g_icmp_gt (tgt := 14) C d_BE_isWithin_7 (by decide) (fun hc_2 => ?_) (fun hc_2 => ?_)
    · have hw := hw.1 hc_2
      refine g_iconst (v := (nI 0)) C d_BE_isWithin_14 (by decide) ?_
      exact g_zret C hQ rfl rfl d_BE_isWithin_15 ⟨rfl, hw⟩
    · have hw := hw.2 hc_2
      refine g_iconst (v := (nI 1)) C d_BE_isWithin_10 (by decide) ?_
      refine g_goto (tgt := 15) C d_BE_isWithin_11 (by decide) ?_
      exact g_zret C hQ rfl rfl d_BE_isWithin_15 ⟨rfl, hw⟩
theorem c_BE_isWithin {l : Launch} {D : va_G} {b0 : Nat} {cT : Nat → ClassId} {ad : Nat → Nat} {post : Int32 → Prop} {x0 : Int32} {x1 : Int32} {x2 : Int32} {M : em_M}  (hw : wp_BE_isWithin post x0 x1 x2 M) : Met l y_BE_isWithin (.code y_BE_isWithin b_BE_isWithin 3 (some .boolean) :: wAll) rm_BE_isWithin (va_Pc [.int x0, .int x1, .int x2] (em_U D b0 cT ad (SH ad) NC M)) (va_Qi (fun r M1 => M = M1 ∧ post r) (em_U D b0 cT ad (SH ad) NC) (em_A b0)) 0 0 (em_A b0) :=
  em_met (by decide) rfl (Nat.le_of_ble_eq_true rfl) (fun X C _ _ hQ => v_BE_isWithin  C hQ hw)
set_option maxHeartbeats 4000000 in
set_option maxRecDepth 100000 in
theorem v_BE_isList {X : em_X} {D : va_G} {b0 : Nat} {cT : Nat → ClassId} {ad : Nat → Nat} {post : Int32 → Prop} {x0 : Int32} {M : em_M}  (C : em_Cx X D b0 cT R_BE b_BE_isList (some .boolean) 1 rm_BE_isList) (hQ : xQ X = MQ (xB X) (va_Qi (fun r M1 => M = M1 ∧ post r) (em_U D b0 cT ad (SH ad) NC) (em_A b0)) (xA X) (xS X) 0 0 (em_A b0)) (hw : wp_BE_isList post x0 M) : em_G X D b0 cT ad 1 (SH ad) NC 0 0 M 0 [(0, .int x0)] [] := by
  unfold wp_BE_isList at hw
  refine g_iload_n C 0 0 d_BE_isList_0 rfl rfl ?_
  refine g_iconst (v := (nI 0)) C d_BE_isList_1 (by decide) ?_
  refine g_bipush (v := (nI 11)) C d_BE_isList_2 (by decide) ?_
  refine g_callSi C [.int x0, .int (nI 0), .int (nI 11)] [] (c_BE_isWithin  hw) (em_cwS C 3 mw_204 mw_205 mw_64 mw_206 rfl rfl (by decide +kernel) (by decide)) rfl rfl (Nat.le_of_ble_eq_true rfl) d_BE_isList_4 (by decide) (fun r_2 M_1 hw => ?_)
  obtain ⟨rfl, hw⟩ := hw
  obtain ⟨hz_3, hw⟩ := hw
  exact g_zret C hQ rfl (em_bn hz_3) d_BE_isList_7 ⟨rfl, hw⟩
theorem c_BE_isList {l : Launch} {D : va_G} {b0 : Nat} {cT : Nat → ClassId} {ad : Nat → Nat} {post : Int32 → Prop} {x0 : Int32} {M : em_M}  (hw : wp_BE_isList post x0 M) : Met l y_BE_isList (.code y_BE_isList b_BE_isList 1 (some .boolean) :: wAll) rm_BE_isList (va_Pc [.int x0] (em_U D b0 cT ad (SH ad) NC M)) (va_Qi (fun r M1 => M = M1 ∧ post r) (em_U D b0 cT ad (SH ad) NC) (em_A b0)) 0 0 (em_A b0) :=
  em_met (by decide) rfl (Nat.le_of_ble_eq_true rfl) (fun X C _ _ hQ => v_BE_isList  C hQ hw)
set_option maxHeartbeats 4000000 in
set_option maxRecDepth 100000 in
theorem v_BE_isObject {X : em_X} {D : va_G} {b0 : Nat} {cT : Nat → ClassId} {ad : Nat → Nat} {post : Int32 → Prop} {x0 : Int32} {M : em_M}  (C : em_Cx X D b0 cT R_BE b_BE_isObject (some .boolean) 1 rm_BE_isObject) (hQ : xQ X = MQ (xB X) (va_Qi (fun r M1 => M = M1 ∧ post r) (em_U D b0 cT ad (SH ad) NC) (em_A b0)) (xA X) (xS X) 0 0 (em_A b0)) (hw : wp_BE_isObject post x0 M) : em_G X D b0 cT ad 1 (SH ad) NC 0 0 M 0 [(0, .int x0)] [] := by
  unfold wp_BE_isObject at hw
  refine g_iload_n C 0 0 d_BE_isObject_0 rfl rfl ?_
  refine g_iconst (v := (nI 0)) C d_BE_isObject_1 (by decide) ?_
  refine g_sipush (v := (nI 511)) C d_BE_isObject_2 (by decide) ?_
  refine g_callSi C [.int x0, .int (nI 0), .int (nI 511)] [] (c_BE_isWithin  hw) (em_cwS C 3 mw_204 mw_205 mw_64 mw_206 rfl rfl (by decide +kernel) (by decide)) rfl rfl (Nat.le_of_ble_eq_true rfl) d_BE_isObject_5 (by decide) (fun r_2 M_1 hw => ?_)
  obtain ⟨rfl, hw⟩ := hw
  obtain ⟨hz_3, hw⟩ := hw
  exact g_zret C hQ rfl (em_bn hz_3) d_BE_isObject_8 ⟨rfl, hw⟩
theorem c_BE_isObject {l : Launch} {D : va_G} {b0 : Nat} {cT : Nat → ClassId} {ad : Nat → Nat} {post : Int32 → Prop} {x0 : Int32} {M : em_M}  (hw : wp_BE_isObject post x0 M) : Met l y_BE_isObject (.code y_BE_isObject b_BE_isObject 1 (some .boolean) :: wAll) rm_BE_isObject (va_Pc [.int x0] (em_U D b0 cT ad (SH ad) NC M)) (va_Qi (fun r M1 => M = M1 ∧ post r) (em_U D b0 cT ad (SH ad) NC) (em_A b0)) 0 0 (em_A b0) :=
  em_met (by decide) rfl (Nat.le_of_ble_eq_true rfl) (fun X C _ _ hQ => v_BE_isObject  C hQ hw)
set_option maxHeartbeats 4000000 in
set_option maxRecDepth 100000 in
theorem v_BE_entry {X : em_X} {D : va_G} {b0 : Nat} {cT : Nat → ClassId} {ad : Nat → Nat} {post : Int32 → em_M → Prop} {x1 : Int32} {x2 : Int32} {x3 : Int32} {M : em_M}  (C : em_Cx X D b0 cT R_BE b_BE_entry (some .int) 5 rm_BE_entry) (hQ : xQ X = MQ (xB X) (va_Qi post (em_U D b0 cT ad (SH ad) NC) (em_A b0)) (xA X) (xS X) 0 0 (em_A b0)) (hw : wp_BE_entry post x1 x2 x3 M) : em_G X D b0 cT ad 5 (SH ad) NC 0 0 M 0 [(0, .ref (ad (0))), (1, .int x1), (2, .int x2), (3, .int x3)] [] := by
  unfold wp_BE_entry at hw
  refine g_iload_n C 1 1 d_BE_entry_0 rfl rfl ?_
  refine g_callSi C [.int x1] [] (c_BE_isList  hw) (em_cwS C 1 mw_201 mw_202 mw_64 mw_203 rfl rfl (by decide +kernel) (by decide)) rfl rfl (Nat.le_of_ble_eq_true rfl) d_BE_entry_1 (by decide) (fun r_2 M_1 hw => ?_)
  obtain ⟨rfl, hw⟩ := hw
  refine g_if_eq (tgt := 24) C d_BE_entry_4 (by decide) (fun hc_3 => ?_) (fun hc_3 => ?_)
  · have hw := hw.1 hc_3
    refine g_iconst (v := (-1 : Int32)) C d_BE_entry_24 (by decide) ?_
    exact g_iret C hQ rfl d_BE_entry_25 hw
  · have hw := hw.2 hc_3
    refine g_iload_n C 2 2 d_BE_entry_7 rfl rfl ?_
    refine g_callSi C [.int x2] [] (c_BE_isObject  hw) (em_cwS C 1 mw_207 mw_208 mw_64 mw_209 rfl rfl (by decide +kernel) (by decide)) rfl rfl (Nat.le_of_ble_eq_true rfl) d_BE_entry_8 (by decide) (fun r_5 M_4 hw => ?_)
    obtain ⟨rfl, hw⟩ := hw
    refine g_if_eq (tgt := 24) C d_BE_entry_11 (by decide) (fun hc_6 => ?_) (fun hc_6 => ?_)
    · have hw := hw.1 hc_6
      refine g_iconst (v := (-1 : Int32)) C d_BE_entry_24 (by decide) ?_
      exact g_iret C hQ rfl d_BE_entry_25 hw
    · have hw := hw.2 hc_6
      refine g_iload_n C 3 3 d_BE_entry_14 rfl rfl ?_
      refine g_iconst (v := (nI 1)) C d_BE_entry_15 (by decide) ?_
      refine g_bipush (v := (nI 100)) C d_BE_entry_16 (by decide) ?_
      refine g_callSi C [.int x3, .int (nI 1), .int (nI 100)] [] (c_BE_isWithin  hw) (em_cwS C 3 mw_204 mw_205 mw_64 mw_206 rfl rfl (by decide +kernel) (by decide)) rfl rfl (Nat.le_of_ble_eq_true rfl) d_BE_entry_18 (by decide) (fun r_8 M_7 hw => ?_)
      obtain ⟨rfl, hw⟩ := hw
      refine g_if_ne (tgt := 26) C d_BE_entry_21 (by decide) (fun hc_9 => ?_) (fun hc_9 => ?_)
      · have hw := hw.1 hc_9
        refine g_aload_n C 0 0 d_BE_entry_26 rfl rfl ?_
        refine g_getr C 0 0 rfl d_BE_entry_27 em_nc_BE em_sh_BE rfl (by decide) rfl in_BE mw_183 rfl ?_
        refine g_getrN C 1 0 rfl d_BE_entry_30 em_nc_SF em_sh_SF rfl (by decide) rfl in_SF mn_4 rfl ?_
        refine g_iload_n C 1 1 d_BE_entry_33 rfl rfl ?_
        obtain ⟨hb_10, hw⟩ := hw
        refine g_aald C 2 rfl d_BE_entry_34 em_nc_lists em_sh_lists rfl hb_10 rfl ?_
        refine g_astore (lv' := [(4, .ref (ad (4 + 3 * x1.toNatClampNeg))), (0, .ref (ad (0))), (1, .int x1), (2, .int x2), (3, .int x3)]) C d_BE_entry_35 (by decide) rfl ?_
        refine g_aload C 0 d_BE_entry_37 rfl ?_
        refine g_iload_n C 3 2 d_BE_entry_39 rfl rfl ?_
        refine g_iload_n C 4 3 d_BE_entry_40 rfl rfl ?_
        refine g_callVNi C (4 + 3 * x1.toNatClampNeg) rfl [.int x2, .int x3] [] (c_SL_put (em_pos hb_10) hw) (em_cnB C 2 mn_40 mw_66 mw_211 rfl rfl (by decide +kernel) (by decide)) mw_210 mw_0 (em_nc_SL (em_pos hb_10)) (em_sh_SL (em_pos hb_10)) rfl rfl rfl (Nat.le_of_ble_eq_true rfl) d_BE_entry_41 (by decide) (fun r_12 M_11 hw => ?_)
        refine g_if_eq (tgt := 55) C d_BE_entry_44 (by decide) (fun hc_13 => ?_) (fun hc_13 => ?_)
        · have hw := hw.1 hc_13
          refine g_bipush (v := (-3 : Int32)) C d_BE_entry_55 (by decide) ?_
          exact g_iret C hQ rfl d_BE_entry_57 hw
        · have hw := hw.2 hc_13
          refine g_aload C 0 d_BE_entry_47 rfl ?_
          refine g_getiN C (4 + 3 * x1.toNatClampNeg) 2 rfl d_BE_entry_49 (em_nc_SL (em_pos hb_10)) (em_sh_SL (em_pos hb_10)) rfl (by decide) rfl in_SL mn_2 rfl ?_
          refine g_goto (tgt := 57) C d_BE_entry_52 (by decide) ?_
          exact g_iret C hQ rfl d_BE_entry_57 hw
      · have hw := hw.2 hc_9
        refine g_iconst (v := (-1 : Int32)) C d_BE_entry_24 (by decide) ?_
        exact g_iret C hQ rfl d_BE_entry_25 hw
theorem c_BE_entry {l : Launch} {D : va_G} {b0 : Nat} {cT : Nat → ClassId} {ad : Nat → Nat} {post : Int32 → em_M → Prop} {x1 : Int32} {x2 : Int32} {x3 : Int32} {M : em_M}  (hw : wp_BE_entry post x1 x2 x3 M) : Met l y_BE_entry (.code y_BE_entry b_BE_entry 5 (some .int) :: wAll) rm_BE_entry (va_Pc [.ref (ad (0)), .int x1, .int x2, .int x3] (em_U D b0 cT ad (SH ad) NC M)) (va_Qi post (em_U D b0 cT ad (SH ad) NC) (em_A b0)) 0 0 (em_A b0) :=
  em_met (by decide) rfl (Nat.le_of_ble_eq_true rfl) (fun X C _ _ hQ => v_BE_entry  C hQ hw)
set_option maxHeartbeats 4000000 in
set_option maxRecDepth 100000 in
theorem v_BE_lose {X : em_X} {D : va_G} {b0 : Nat} {cT : Nat → ClassId} {ad : Nat → Nat} {post : Int32 → em_M → Prop} {x1 : Int32} {x2 : Int32} {M : em_M}  (C : em_Cx X D b0 cT R_BE b_BE_lose (some .int) 4 rm_BE_lose) (hQ : xQ X = MQ (xB X) (va_Qi post (em_U D b0 cT ad (SH ad) NC) (em_A b0)) (xA X) (xS X) 0 0 (em_A b0)) (hw : wp_BE_lose post x1 x2 M) : em_G X D b0 cT ad 4 (SH ad) NC 0 0 M 0 [(0, .ref (ad (0))), (1, .int x1), (2, .int x2)] [] := by
  unfold wp_BE_lose at hw
  refine g_iload_n C 1 1 d_BE_lose_0 rfl rfl ?_
  refine g_callSi C [.int x1] [] (c_BE_isList  hw) (em_cwS C 1 mw_201 mw_202 mw_64 mw_203 rfl rfl (by decide +kernel) (by decide)) rfl rfl (Nat.le_of_ble_eq_true rfl) d_BE_lose_1 (by decide) (fun r_2 M_1 hw => ?_)
  obtain ⟨rfl, hw⟩ := hw
  refine g_if_eq (tgt := 14) C d_BE_lose_4 (by decide) (fun hc_3 => ?_) (fun hc_3 => ?_)
  · have hw := hw.1 hc_3
    refine g_iconst (v := (-1 : Int32)) C d_BE_lose_14 (by decide) ?_
    exact g_iret C hQ rfl d_BE_lose_15 hw
  · have hw := hw.2 hc_3
    refine g_iload_n C 2 2 d_BE_lose_7 rfl rfl ?_
    refine g_callSi C [.int x2] [] (c_BE_isObject  hw) (em_cwS C 1 mw_207 mw_208 mw_64 mw_209 rfl rfl (by decide +kernel) (by decide)) rfl rfl (Nat.le_of_ble_eq_true rfl) d_BE_lose_8 (by decide) (fun r_5 M_4 hw => ?_)
    obtain ⟨rfl, hw⟩ := hw
    refine g_if_ne (tgt := 16) C d_BE_lose_11 (by decide) (fun hc_6 => ?_) (fun hc_6 => ?_)
    · have hw := hw.1 hc_6
      refine g_aload_n C 0 0 d_BE_lose_16 rfl rfl ?_
      refine g_getr C 0 0 rfl d_BE_lose_17 em_nc_BE em_sh_BE rfl (by decide) rfl in_BE mw_183 rfl ?_
      refine g_getrN C 1 0 rfl d_BE_lose_20 em_nc_SF em_sh_SF rfl (by decide) rfl in_SF mn_4 rfl ?_
      refine g_iload_n C 1 1 d_BE_lose_23 rfl rfl ?_
      obtain ⟨hb_7, hw⟩ := hw
      refine g_aald C 2 rfl d_BE_lose_24 em_nc_lists em_sh_lists rfl hb_7 rfl ?_
      refine g_astore_n (lv' := [(3, .ref (ad (4 + 3 * x1.toNatClampNeg))), (0, .ref (ad (0))), (1, .int x1), (2, .int x2)]) C 3 d_BE_lose_25 rfl (by decide) rfl ?_
      refine g_aload_n C 0 3 d_BE_lose_26 rfl rfl ?_
      refine g_iload_n C 3 2 d_BE_lose_27 rfl rfl ?_
      refine g_callVNi C (4 + 3 * x1.toNatClampNeg) rfl [.int x2] [] (c_SL_drop (em_pos hb_7) hw) (em_cnB C 1 mn_41 mw_66 mw_223 rfl rfl (by decide +kernel) (by decide)) mw_222 mw_2 (em_nc_SL (em_pos hb_7)) (em_sh_SL (em_pos hb_7)) rfl rfl rfl (Nat.le_of_ble_eq_true rfl) d_BE_lose_28 (by decide) (fun r_9 M_8 hw => ?_)
      refine g_if_eq (tgt := 41) C d_BE_lose_31 (by decide) (fun hc_10 => ?_) (fun hc_10 => ?_)
      · have hw := hw.1 hc_10
        refine g_iconst (v := (-1 : Int32)) C d_BE_lose_41 (by decide) ?_
        exact g_iret C hQ rfl d_BE_lose_42 hw
      · have hw := hw.2 hc_10
        refine g_aload_n C 0 3 d_BE_lose_34 rfl rfl ?_
        refine g_getiN C (4 + 3 * x1.toNatClampNeg) 2 rfl d_BE_lose_35 (em_nc_SL (em_pos hb_7)) (em_sh_SL (em_pos hb_7)) rfl (by decide) rfl in_SL mn_2 rfl ?_
        refine g_goto (tgt := 42) C d_BE_lose_38 (by decide) ?_
        exact g_iret C hQ rfl d_BE_lose_42 hw
    · have hw := hw.2 hc_6
      refine g_iconst (v := (-1 : Int32)) C d_BE_lose_14 (by decide) ?_
      exact g_iret C hQ rfl d_BE_lose_15 hw
theorem c_BE_lose {l : Launch} {D : va_G} {b0 : Nat} {cT : Nat → ClassId} {ad : Nat → Nat} {post : Int32 → em_M → Prop} {x1 : Int32} {x2 : Int32} {M : em_M}  (hw : wp_BE_lose post x1 x2 M) : Met l y_BE_lose (.code y_BE_lose b_BE_lose 4 (some .int) :: wAll) rm_BE_lose (va_Pc [.ref (ad (0)), .int x1, .int x2] (em_U D b0 cT ad (SH ad) NC M)) (va_Qi post (em_U D b0 cT ad (SH ad) NC) (em_A b0)) 0 0 (em_A b0) :=
  em_met (by decide) rfl (Nat.le_of_ble_eq_true rfl) (fun X C _ _ hQ => v_BE_lose  C hQ hw)
set_option maxHeartbeats 4000000 in
set_option maxRecDepth 100000 in
theorem v_BE_key {X : em_X} {D : va_G} {b0 : Nat} {cT : Nat → ClassId} {ad : Nat → Nat} {post : Int32 → em_M → Prop} {x1 : Int32} {x2 : Int32} {M : em_M}  (C : em_Cx X D b0 cT R_BE b_BE_key (some .int) 4 rm_BE_key) (hQ : xQ X = MQ (xB X) (va_Qi post (em_U D b0 cT ad (SH ad) NC) (em_A b0)) (xA X) (xS X) 0 0 (em_A b0)) (hw : wp_BE_key post x1 x2 M) : em_G X D b0 cT ad 4 (SH ad) NC 0 0 M 0 [(0, .ref (ad (0))), (1, .int x1), (2, .int x2)] [] := by
  unfold wp_BE_key at hw
  refine g_iload_n C 1 1 d_BE_key_0 rfl rfl ?_
  refine g_callSi C [.int x1] [] (c_BE_isObject  hw) (em_cwS C 1 mw_207 mw_208 mw_64 mw_209 rfl rfl (by decide +kernel) (by decide)) rfl rfl (Nat.le_of_ble_eq_true rfl) d_BE_key_1 (by decide) (fun r_2 M_1 hw => ?_)
  obtain ⟨rfl, hw⟩ := hw
  refine g_if_eq (tgt := 20) C d_BE_key_4 (by decide) (fun hc_3 => ?_) (fun hc_3 => ?_)
  · have hw := hw.1 hc_3
    refine g_iconst (v := (-1 : Int32)) C d_BE_key_20 (by decide) ?_
    exact g_iret C hQ rfl d_BE_key_21 hw
  · have hw := hw.2 hc_3
    refine g_iload_n C 2 2 d_BE_key_7 rfl rfl ?_
    refine g_sipush (v := (-1000 : Int32)) C d_BE_key_8 (by decide) ?_
    refine g_sipush (v := (nI 1000)) C d_BE_key_11 (by decide) ?_
    refine g_callSi C [.int x2, .int (-1000 : Int32), .int (nI 1000)] [] (c_BE_isWithin  hw) (em_cwS C 3 mw_204 mw_205 mw_64 mw_206 rfl rfl (by decide +kernel) (by decide)) rfl rfl (Nat.le_of_ble_eq_true rfl) d_BE_key_14 (by decide) (fun r_5 M_4 hw => ?_)
    obtain ⟨rfl, hw⟩ := hw
    refine g_if_ne (tgt := 22) C d_BE_key_17 (by decide) (fun hc_6 => ?_) (fun hc_6 => ?_)
    · have hw := hw.1 hc_6
      refine g_aload_n C 0 0 d_BE_key_22 rfl rfl ?_
      refine g_getr C 0 0 rfl d_BE_key_23 em_nc_BE em_sh_BE rfl (by decide) rfl in_BE mw_183 rfl ?_
      refine g_getrN C 1 1 rfl d_BE_key_26 em_nc_SF em_sh_SF rfl (by decide) rfl in_SF mn_8 rfl ?_
      refine g_iload_n C 1 1 d_BE_key_29 rfl rfl ?_
      obtain ⟨hb_7, hw⟩ := hw
      refine g_iald C 3 rfl d_BE_key_30 em_nc_keyOf em_sh_keyOf rfl hb_7 ?_
      refine g_topi (fun x3_8 ex3_8 => ?_)
      have hw := hw x3_8 ex3_8
      refine g_istore_n (lv' := [(3, .int x3_8), (0, .ref (ad (0))), (1, .int x1), (2, .int x2)]) C 3 d_BE_key_31 rfl (by decide) rfl ?_
      refine g_aload_n C 1 0 d_BE_key_32 rfl rfl ?_
      refine g_getr C 0 0 rfl d_BE_key_33 em_nc_BE em_sh_BE rfl (by decide) rfl in_BE mw_183 rfl ?_
      refine g_getrN C 1 1 rfl d_BE_key_36 em_nc_SF em_sh_SF rfl (by decide) rfl in_SF mn_8 rfl ?_
      refine g_iload_n C 2 1 d_BE_key_39 rfl rfl ?_
      refine g_iload_n C 3 2 d_BE_key_40 rfl rfl ?_
      refine g_iast C 3 rfl d_BE_key_41 em_nc_keyOf em_sh_keyOf rfl hb_7 ?_
      refine g_nameM (fun M_9 eM_9 => ?_)
      have hw := hw M_9 eM_9
      refine g_iload_n C 0 3 d_BE_key_42 rfl rfl ?_
      refine g_sipush (v := (nI 1000)) C d_BE_key_43 (by decide) ?_
      refine g_iadd C d_BE_key_46 ?_
      exact g_iret C hQ rfl d_BE_key_47 hw
    · have hw := hw.2 hc_6
      refine g_iconst (v := (-1 : Int32)) C d_BE_key_20 (by decide) ?_
      exact g_iret C hQ rfl d_BE_key_21 hw
theorem c_BE_key {l : Launch} {D : va_G} {b0 : Nat} {cT : Nat → ClassId} {ad : Nat → Nat} {post : Int32 → em_M → Prop} {x1 : Int32} {x2 : Int32} {M : em_M}  (hw : wp_BE_key post x1 x2 M) : Met l y_BE_key (.code y_BE_key b_BE_key 4 (some .int) :: wAll) rm_BE_key (va_Pc [.ref (ad (0)), .int x1, .int x2] (em_U D b0 cT ad (SH ad) NC M)) (va_Qi post (em_U D b0 cT ad (SH ad) NC) (em_A b0)) 0 0 (em_A b0) :=
  em_met (by decide) rfl (Nat.le_of_ble_eq_true rfl) (fun X C _ _ hQ => v_BE_key  C hQ hw)
set_option maxHeartbeats 4000000 in
set_option maxRecDepth 100000 in
theorem v_BE_top {X : em_X} {D : va_G} {b0 : Nat} {cT : Nat → ClassId} {ad : Nat → Nat} {post : Int32 → Prop} {x1 : Int32} {x2 : Int32} {M : em_M}  (C : em_Cx X D b0 cT R_BE b_BE_top (some .int) 4 rm_BE_top) (hQ : xQ X = MQ (xB X) (va_Qi (fun r M1 => M = M1 ∧ post r) (em_U D b0 cT ad (SH ad) NC) (em_A b0)) (xA X) (xS X) 0 0 (em_A b0)) (hw : wp_BE_top post x1 x2 M) : em_G X D b0 cT ad 4 (SH ad) NC 0 0 M 0 [(0, .ref (ad (0))), (1, .int x1), (2, .int x2)] [] := by
  unfold wp_BE_top at hw
  refine g_iload_n C 1 1 d_BE_top_0 rfl rfl ?_
  refine g_callSi C [.int x1] [] (c_BE_isList  hw) (em_cwS C 1 mw_201 mw_202 mw_64 mw_203 rfl rfl (by decide +kernel) (by decide)) rfl rfl (Nat.le_of_ble_eq_true rfl) d_BE_top_1 (by decide) (fun r_2 M_1 hw => ?_)
  obtain ⟨rfl, hw⟩ := hw
  refine g_if_ne (tgt := 9) C d_BE_top_4 (by decide) (fun hc_3 => ?_) (fun hc_3 => ?_)
  · have hw := hw.1 hc_3
    refine g_aload_n C 0 0 d_BE_top_9 rfl rfl ?_
    refine g_getr C 0 0 rfl d_BE_top_10 em_nc_BE em_sh_BE rfl (by decide) rfl in_BE mw_183 rfl ?_
    refine g_getrN C 1 0 rfl d_BE_top_13 em_nc_SF em_sh_SF rfl (by decide) rfl in_SF mn_4 rfl ?_
    refine g_iload_n C 1 1 d_BE_top_16 rfl rfl ?_
    obtain ⟨hb_4, hw⟩ := hw
    refine g_aald C 2 rfl d_BE_top_17 em_nc_lists em_sh_lists rfl hb_4 rfl ?_
    refine g_astore_n (lv' := [(3, .ref (ad (4 + 3 * x1.toNatClampNeg))), (0, .ref (ad (0))), (1, .int x1), (2, .int x2)]) C 3 d_BE_top_18 rfl (by decide) rfl ?_
    refine g_iload_n C 3 2 d_BE_top_19 rfl rfl ?_
    refine g_iconst (v := (-1 : Int32)) C d_BE_top_20 (by decide) ?_
    refine g_icmp_ne (tgt := 29) C d_BE_top_21 (by decide) (fun hc_5 => ?_) (fun hc_5 => ?_)
    · have hw := hw.1 hc_5
      refine g_iload_n C 3 2 d_BE_top_29 rfl rfl ?_
      refine g_iconst (v := (nI 0)) C d_BE_top_30 (by decide) ?_
      refine g_aload_n C 0 3 d_BE_top_31 rfl rfl ?_
      refine g_callVNi C (4 + 3 * x1.toNatClampNeg) rfl [] [.int (nI 0), .int x2] (c_SL_blocks (em_pos hb_4) hw) (em_cnB C 0 mn_43 mw_66 mw_241 rfl rfl (by decide +kernel) (by decide)) mw_240 mw_5 (em_nc_SL (em_pos hb_4)) (em_sh_SL (em_pos hb_4)) rfl rfl rfl (Nat.le_of_ble_eq_true rfl) d_BE_top_32 (by decide) (fun r_7 M_6 hw => ?_)
      obtain ⟨rfl, hw⟩ := hw
      refine g_iconst (v := (nI 1)) C d_BE_top_35 (by decide) ?_
      refine g_isub C d_BE_top_36 ?_
      refine g_callSi C [.int x2, .int (nI 0), .int (r_7 - (nI 1))] [] (c_BE_isWithin  hw) (em_cwS C 3 mw_204 mw_205 mw_64 mw_206 rfl rfl (by decide +kernel) (by decide)) rfl rfl (Nat.le_of_ble_eq_true rfl) d_BE_top_37 (by decide) (fun r_9 M_8 hw => ?_)
      obtain ⟨rfl, hw⟩ := hw
      refine g_if_eq (tgt := 51) C d_BE_top_40 (by decide) (fun hc_10 => ?_) (fun hc_10 => ?_)
      · have hw := hw.1 hc_10
        refine g_iconst (v := (-1 : Int32)) C d_BE_top_51 (by decide) ?_
        exact g_iret C hQ rfl d_BE_top_52 ⟨rfl, hw⟩
      · have hw := hw.2 hc_10
        refine g_aload_n C 0 3 d_BE_top_43 rfl rfl ?_
        refine g_iload_n C 3 2 d_BE_top_44 rfl rfl ?_
        refine g_callVNi C (4 + 3 * x1.toNatClampNeg) rfl [.int x2] [] (c_SL_greatestOfBlock (em_pos hb_4) hw) (em_cnB C 1 mn_44 mw_66 mw_243 rfl rfl (by decide +kernel) (by decide)) mw_242 mw_6 (em_nc_SL (em_pos hb_4)) (em_sh_SL (em_pos hb_4)) rfl rfl rfl (Nat.le_of_ble_eq_true rfl) d_BE_top_45 (by decide) (fun r_12 M_11 hw => ?_)
        obtain ⟨rfl, hw⟩ := hw
        refine g_goto (tgt := 52) C d_BE_top_48 (by decide) ?_
        exact g_iret C hQ rfl d_BE_top_52 ⟨rfl, hw⟩
    · have hw := hw.2 hc_5
      refine g_aload_n C 0 3 d_BE_top_24 rfl rfl ?_
      refine g_callVNi C (4 + 3 * x1.toNatClampNeg) rfl [] [] (c_SL_greatest (em_pos hb_4) hw) (em_cnB C 0 mn_42 mw_66 mw_233 rfl rfl (by decide +kernel) (by decide)) mw_232 mw_3 (em_nc_SL (em_pos hb_4)) (em_sh_SL (em_pos hb_4)) rfl rfl rfl (Nat.le_of_ble_eq_true rfl) d_BE_top_25 (by decide) (fun r_14 M_13 hw => ?_)
      obtain ⟨rfl, hw⟩ := hw
      exact g_iret C hQ rfl d_BE_top_28 ⟨rfl, hw⟩
  · have hw := hw.2 hc_3
    refine g_iconst (v := (-1 : Int32)) C d_BE_top_7 (by decide) ?_
    exact g_iret C hQ rfl d_BE_top_8 ⟨rfl, hw⟩
theorem c_BE_top {l : Launch} {D : va_G} {b0 : Nat} {cT : Nat → ClassId} {ad : Nat → Nat} {post : Int32 → Prop} {x1 : Int32} {x2 : Int32} {M : em_M}  (hw : wp_BE_top post x1 x2 M) : Met l y_BE_top (.code y_BE_top b_BE_top 4 (some .int) :: wAll) rm_BE_top (va_Pc [.ref (ad (0)), .int x1, .int x2] (em_U D b0 cT ad (SH ad) NC M)) (va_Qi (fun r M1 => M = M1 ∧ post r) (em_U D b0 cT ad (SH ad) NC) (em_A b0)) 0 0 (em_A b0) :=
  em_met (by decide) rfl (Nat.le_of_ble_eq_true rfl) (fun X C _ _ hQ => v_BE_top  C hQ hw)
set_option maxHeartbeats 4000000 in
set_option maxRecDepth 100000 in
theorem v_BE_ask {X : em_X} {D : va_G} {b0 : Nat} {cT : Nat → ClassId} {ad : Nat → Nat} {post : Int32 → em_M → Prop} {x1 : Int32} {x2 : Int32} {x3 : Int32} {M : em_M}  (C : em_Cx X D b0 cT R_BE b_BE_ask (some .int) 5 rm_BE_ask) (hQ : xQ X = MQ (xB X) (va_Qi post (em_U D b0 cT ad (SH ad) NC) (em_A b0)) (xA X) (xS X) 0 0 (em_A b0)) (hw : wp_BE_ask post x1 x2 x3 M) : em_G X D b0 cT ad 5 (SH ad) NC 0 0 M 0 [(0, .ref (ad (0))), (1, .int x1), (2, .int x2), (3, .int x3)] [] := by
  unfold wp_BE_ask at hw
  refine g_iload_n C 1 1 d_BE_ask_0 rfl rfl ?_
  refine g_callSi C [.int x1] [] (c_BE_isList  hw) (em_cwS C 1 mw_201 mw_202 mw_64 mw_203 rfl rfl (by decide +kernel) (by decide)) rfl rfl (Nat.le_of_ble_eq_true rfl) d_BE_ask_1 (by decide) (fun r_2 M_1 hw => ?_)
  obtain ⟨rfl, hw⟩ := hw
  refine g_if_eq (tgt := 26) C d_BE_ask_4 (by decide) (fun hc_3 => ?_) (fun hc_3 => ?_)
  · have hw := hw.1 hc_3
    refine g_iconst (v := (-1 : Int32)) C d_BE_ask_26 (by decide) ?_
    exact g_iret C hQ rfl d_BE_ask_27 hw
  · have hw := hw.2 hc_3
    refine g_iload_n C 2 2 d_BE_ask_7 rfl rfl ?_
    refine g_iconst (v := (nI 0)) C d_BE_ask_8 (by decide) ?_
    refine g_iconst (v := (nI 3)) C d_BE_ask_9 (by decide) ?_
    refine g_callSi C [.int x2, .int (nI 0), .int (nI 3)] [] (c_BE_isWithin  hw) (em_cwS C 3 mw_204 mw_205 mw_64 mw_206 rfl rfl (by decide +kernel) (by decide)) rfl rfl (Nat.le_of_ble_eq_true rfl) d_BE_ask_10 (by decide) (fun r_5 M_4 hw => ?_)
    obtain ⟨rfl, hw⟩ := hw
    refine g_if_eq (tgt := 26) C d_BE_ask_13 (by decide) (fun hc_6 => ?_) (fun hc_6 => ?_)
    · have hw := hw.1 hc_6
      refine g_iconst (v := (-1 : Int32)) C d_BE_ask_26 (by decide) ?_
      exact g_iret C hQ rfl d_BE_ask_27 hw
    · have hw := hw.2 hc_6
      refine g_iload_n C 3 3 d_BE_ask_16 rfl rfl ?_
      refine g_iconst (v := (nI 1)) C d_BE_ask_17 (by decide) ?_
      refine g_bipush (v := (nI 9)) C d_BE_ask_18 (by decide) ?_
      refine g_callSi C [.int x3, .int (nI 1), .int (nI 9)] [] (c_BE_isWithin  hw) (em_cwS C 3 mw_204 mw_205 mw_64 mw_206 rfl rfl (by decide +kernel) (by decide)) rfl rfl (Nat.le_of_ble_eq_true rfl) d_BE_ask_20 (by decide) (fun r_8 M_7 hw => ?_)
      obtain ⟨rfl, hw⟩ := hw
      refine g_if_ne (tgt := 28) C d_BE_ask_23 (by decide) (fun hc_9 => ?_) (fun hc_9 => ?_)
      · have hw := hw.1 hc_9
        refine g_bipush (v := (nI 10)) C d_BE_ask_28 (by decide) ?_
        refine g_aload_n C 0 0 d_BE_ask_30 rfl rfl ?_
        refine g_getr C 0 1 rfl d_BE_ask_31 em_nc_BE em_sh_BE rfl (by decide) rfl in_BE mw_184 rfl ?_
        refine g_getrN C 40 2 rfl d_BE_ask_34 em_nc_QU em_sh_QU rfl (by decide) rfl in_QU mn_13 rfl ?_
        refine g_iload_n C 1 1 d_BE_ask_37 rfl rfl ?_
        obtain ⟨hb_10, hw⟩ := hw
        refine g_iald C 42 rfl d_BE_ask_38 em_nc_weights em_sh_weights rfl hb_10 ?_
        refine g_imul C d_BE_ask_39 ?_
        refine g_aload_n C 0 0 d_BE_ask_40 rfl rfl ?_
        refine g_getr C 0 1 rfl d_BE_ask_41 em_nc_BE em_sh_BE rfl (by decide) rfl in_BE mw_184 rfl ?_
        refine g_getrN C 40 1 rfl d_BE_ask_44 em_nc_QU em_sh_QU rfl (by decide) rfl in_QU mn_10 rfl ?_
        refine g_iload_n C 1 1 d_BE_ask_47 rfl rfl ?_
        refine g_iald C 41 rfl d_BE_ask_48 em_nc_sorts em_sh_sorts rfl hb_10 ?_
        refine g_iadd C d_BE_ask_49 ?_
        refine g_topi (fun x4_11 ex4_11 => ?_)
        have hw := hw x4_11 ex4_11
        refine g_istore (lv' := [(4, .int x4_11), (0, .ref (ad (0))), (1, .int x1), (2, .int x2), (3, .int x3)]) C d_BE_ask_50 (by decide) rfl ?_
        refine g_aload_n C 1 0 d_BE_ask_52 rfl rfl ?_
        refine g_getr C 0 1 rfl d_BE_ask_53 em_nc_BE em_sh_BE rfl (by decide) rfl in_BE mw_184 rfl ?_
        refine g_getrN C 40 1 rfl d_BE_ask_56 em_nc_QU em_sh_QU rfl (by decide) rfl in_QU mn_10 rfl ?_
        refine g_iload_n C 2 1 d_BE_ask_59 rfl rfl ?_
        refine g_iload_n C 3 2 d_BE_ask_60 rfl rfl ?_
        refine g_iast C 41 rfl d_BE_ask_61 em_nc_sorts em_sh_sorts rfl hb_10 ?_
        refine g_nameM (fun M_12 eM_12 => ?_)
        have hw := hw M_12 eM_12
        refine g_aload_n C 1 0 d_BE_ask_62 rfl rfl ?_
        refine g_getr C 0 1 rfl d_BE_ask_63 em_nc_BE em_sh_BE rfl (by decide) rfl in_BE mw_184 rfl ?_
        refine g_getrN C 40 2 rfl d_BE_ask_66 em_nc_QU em_sh_QU rfl (by decide) rfl in_QU mn_13 rfl ?_
        refine g_iload_n C 2 1 d_BE_ask_69 rfl rfl ?_
        refine g_iload_n C 4 3 d_BE_ask_70 rfl rfl ?_
        refine g_iast C 42 rfl d_BE_ask_71 em_nc_weights em_sh_weights rfl hb_10 ?_
        refine g_nameM (fun M_13 eM_13 => ?_)
        have hw := hw M_13 eM_13
        refine g_iload C 0 d_BE_ask_72 rfl ?_
        exact g_iret C hQ rfl d_BE_ask_74 hw
      · have hw := hw.2 hc_9
        refine g_iconst (v := (-1 : Int32)) C d_BE_ask_26 (by decide) ?_
        exact g_iret C hQ rfl d_BE_ask_27 hw
theorem c_BE_ask {l : Launch} {D : va_G} {b0 : Nat} {cT : Nat → ClassId} {ad : Nat → Nat} {post : Int32 → em_M → Prop} {x1 : Int32} {x2 : Int32} {x3 : Int32} {M : em_M}  (hw : wp_BE_ask post x1 x2 x3 M) : Met l y_BE_ask (.code y_BE_ask b_BE_ask 5 (some .int) :: wAll) rm_BE_ask (va_Pc [.ref (ad (0)), .int x1, .int x2, .int x3] (em_U D b0 cT ad (SH ad) NC M)) (va_Qi post (em_U D b0 cT ad (SH ad) NC) (em_A b0)) 0 0 (em_A b0) :=
  em_met (by decide) rfl (Nat.le_of_ble_eq_true rfl) (fun X C _ _ hQ => v_BE_ask  C hQ hw)
set_option maxHeartbeats 4000000 in
set_option maxRecDepth 100000 in
theorem v_BE_wanted {X : em_X} {D : va_G} {b0 : Nat} {cT : Nat → ClassId} {ad : Nat → Nat} {post : Int32 → em_M → Prop} {x1 : Int32} {M : em_M}  (C : em_Cx X D b0 cT R_BE b_BE_wanted (some .int) 3 rm_BE_wanted) (hQ : xQ X = MQ (xB X) (va_Qi post (em_U D b0 cT ad (SH ad) NC) (em_A b0)) (xA X) (xS X) 0 0 (em_A b0)) (hw : wp_BE_wanted post x1 M) : em_G X D b0 cT ad 3 (SH ad) NC 0 0 M 0 [(0, .ref (ad (0))), (1, .int x1)] [] := by
  unfold wp_BE_wanted at hw
  refine g_iload_n C 1 1 d_BE_wanted_0 rfl rfl ?_
  refine g_iconst (v := (nI 1)) C d_BE_wanted_1 (by decide) ?_
  refine g_bipush (v := (nI 20)) C d_BE_wanted_2 (by decide) ?_
  refine g_callSi C [.int x1, .int (nI 1), .int (nI 20)] [] (c_BE_isWithin  hw) (em_cwS C 3 mw_204 mw_205 mw_64 mw_206 rfl rfl (by decide +kernel) (by decide)) rfl rfl (Nat.le_of_ble_eq_true rfl) d_BE_wanted_4 (by decide) (fun r_2 M_1 hw => ?_)
  obtain ⟨rfl, hw⟩ := hw
  refine g_if_ne (tgt := 12) C d_BE_wanted_7 (by decide) (fun hc_3 => ?_) (fun hc_3 => ?_)
  · have hw := hw.1 hc_3
    refine g_aload_n C 0 0 d_BE_wanted_12 rfl rfl ?_
    refine g_getr C 0 1 rfl d_BE_wanted_13 em_nc_BE em_sh_BE rfl (by decide) rfl in_BE mw_184 rfl ?_
    refine g_getiN C 40 3 rfl d_BE_wanted_16 em_nc_QU em_sh_QU rfl (by decide) rfl in_QU mn_16 rfl ?_
    refine g_topi (fun x2_4 ex2_4 => ?_)
    have hw := hw x2_4 ex2_4
    refine g_istore_n (lv' := [(2, .int x2_4), (0, .ref (ad (0))), (1, .int x1)]) C 2 d_BE_wanted_19 rfl (by decide) rfl ?_
    refine g_aload_n C 1 0 d_BE_wanted_20 rfl rfl ?_
    refine g_getr C 0 1 rfl d_BE_wanted_21 em_nc_BE em_sh_BE rfl (by decide) rfl in_BE mw_184 rfl ?_
    refine g_iload_n C 2 1 d_BE_wanted_24 rfl rfl ?_
    refine g_putiN C 40 3 rfl ty_QU tyok_QU nm_QU d_BE_wanted_25 em_nc_QU em_sh_QU rfl (by decide) rfl in_QU mn_16 rfl rfl rfl rfl rfl ?_
    refine g_nameM (fun M_5 eM_5 => ?_)
    have hw := hw M_5 eM_5
    refine g_iload_n C 0 2 d_BE_wanted_28 rfl rfl ?_
    exact g_iret C hQ rfl d_BE_wanted_29 hw
  · have hw := hw.2 hc_3
    refine g_iconst (v := (-1 : Int32)) C d_BE_wanted_10 (by decide) ?_
    exact g_iret C hQ rfl d_BE_wanted_11 hw
theorem c_BE_wanted {l : Launch} {D : va_G} {b0 : Nat} {cT : Nat → ClassId} {ad : Nat → Nat} {post : Int32 → em_M → Prop} {x1 : Int32} {M : em_M}  (hw : wp_BE_wanted post x1 M) : Met l y_BE_wanted (.code y_BE_wanted b_BE_wanted 3 (some .int) :: wAll) rm_BE_wanted (va_Pc [.ref (ad (0)), .int x1] (em_U D b0 cT ad (SH ad) NC M)) (va_Qi post (em_U D b0 cT ad (SH ad) NC) (em_A b0)) 0 0 (em_A b0) :=
  em_met (by decide) rfl (Nat.le_of_ble_eq_true rfl) (fun X C _ _ hQ => v_BE_wanted  C hQ hw)
set_option maxHeartbeats 4000000 in
set_option maxRecDepth 100000 in
theorem v_BE_place {X : em_X} {D : va_G} {b0 : Nat} {cT : Nat → ClassId} {ad : Nat → Nat} {post : Int32 → em_M → Prop} {x1 : Int32} {x2 : Int32} {M : em_M}  (C : em_Cx X D b0 cT R_BE b_BE_place (some .int) 5 rm_BE_place) (hQ : xQ X = MQ (xB X) (va_Qi post (em_U D b0 cT ad (SH ad) NC) (em_A b0)) (xA X) (xS X) 0 0 (em_A b0)) (hw : wp_BE_place post x1 x2 M) : em_G X D b0 cT ad 5 (SH ad) NC 0 0 M 0 [(0, .ref (ad (0))), (1, .int x1), (2, .int x2)] [] := by
  unfold wp_BE_place at hw
  refine g_iload_n C 1 1 d_BE_place_0 rfl rfl ?_
  refine g_iconst (v := (-1 : Int32)) C d_BE_place_1 (by decide) ?_
  obtain ⟨J_1, hJ_1, hw⟩ := em_jn1 hw
  have j_1 : ∀ (z_3 : Int32) , J_1 z_3 → em_G X D b0 cT ad 5 (SH ad) NC 0 0 M 10 [(0, .ref (ad (0))), (1, .int x1), (2, .int x2)] [.int z_3] := by
    intro z_3 hw
    have hw := hJ_1 z_3 hw
    refine g_istore_n (lv' := [(3, .int z_3), (0, .ref (ad (0))), (1, .int x1), (2, .int x2)]) C 3 d_BE_place_10 rfl (by decide) rfl ?_
    refine g_iload_n C 0 3 d_BE_place_11 rfl rfl ?_
    obtain ⟨J_4, hJ_4, hw⟩ := em_jn0 hw
    have j_4 : J_4 → em_G X D b0 cT ad 5 (SH ad) NC 0 0 M 35 [(0, .ref (ad (0))), (1, .int x1), (2, .int x2), (3, .int z_3)] [] := by
      intro  hw
      have hw := hJ_4  hw
      refine g_aload_n C 0 0 d_BE_place_35 rfl rfl ?_
      refine g_getr C 0 1 rfl d_BE_place_36 em_nc_BE em_sh_BE rfl (by decide) rfl in_BE mw_184 rfl ?_
      refine g_getiN C 40 4 rfl d_BE_place_39 em_nc_QU em_sh_QU rfl (by decide) rfl in_QU mn_17 rfl ?_
      obtain ⟨J_12, hJ_12, hw⟩ := em_jn1 hw
      have j_12 : ∀ (z_14 : Int32) , J_12 z_14 → em_G X D b0 cT ad 5 (SH ad) NC 0 0 M 50 [(0, .ref (ad (0))), (1, .int x1), (2, .int x2), (3, .int z_3)] [.int z_14] := by
        intro z_14 hw
        have hw := hJ_12 z_14 hw
        refine g_istore (lv' := [(4, .int z_14), (0, .ref (ad (0))), (1, .int x1), (2, .int x2), (3, .int z_3)]) C d_BE_place_50 (by decide) rfl ?_
        refine g_aload_n C 1 0 d_BE_place_52 rfl rfl ?_
        refine g_getr C 0 1 rfl d_BE_place_53 em_nc_BE em_sh_BE rfl (by decide) rfl in_BE mw_184 rfl ?_
        refine g_iload_n C 4 3 d_BE_place_56 rfl rfl ?_
        obtain ⟨J_15, hJ_15, hw⟩ := em_jn1 hw
        have j_15 : ∀ (z_17 : Int32) , J_15 z_17 → em_G X D b0 cT ad 5 (SH ad) NC 0 0 M 65 [(0, .ref (ad (0))), (1, .int x1), (2, .int x2), (3, .int z_3), (4, .int z_14)] [.int z_17, .ref (ad (40))] := by
          intro z_17 hw
          have hw := hJ_15 z_17 hw
          obtain ⟨hz_18, hw⟩ := hw
          refine g_putiN C 40 4 rfl ty_QU tyok_QU nm_QU d_BE_place_65 em_nc_QU em_sh_QU rfl (by decide) rfl in_QU mn_17 rfl rfl rfl (em_bn hz_18) (em_bf hz_18) ?_
          refine g_nameM (fun M_19 eM_19 => ?_)
          have hw := hw M_19 eM_19
          refine g_aload_n C 0 0 d_BE_place_68 rfl rfl ?_
          refine g_getr C 0 1 rfl d_BE_place_69 em_nc_BE em_sh_BE rfl (by decide) rfl in_BE mw_184 rfl ?_
          refine g_iload_n C 1 1 d_BE_place_72 rfl rfl ?_
          refine g_putiN C 40 5 rfl ty_QU tyok_QU nm_QU d_BE_place_73 em_nc_QU em_sh_QU rfl (by decide) rfl in_QU mn_18 rfl rfl rfl rfl rfl ?_
          refine g_nameM (fun M_20 eM_20 => ?_)
          have hw := hw M_20 eM_20
          refine g_aload_n C 0 0 d_BE_place_76 rfl rfl ?_
          refine g_getr C 0 1 rfl d_BE_place_77 em_nc_BE em_sh_BE rfl (by decide) rfl in_BE mw_184 rfl ?_
          refine g_iload_n C 2 2 d_BE_place_80 rfl rfl ?_
          refine g_putiN C 40 6 rfl ty_QU tyok_QU nm_QU d_BE_place_81 em_nc_QU em_sh_QU rfl (by decide) rfl in_QU mn_19 rfl rfl rfl rfl rfl ?_
          refine g_nameM (fun M_21 eM_21 => ?_)
          have hw := hw M_21 eM_21
          refine g_iload C 4 d_BE_place_84 rfl ?_
          exact g_iret C hQ rfl d_BE_place_86 hw
        refine g_if_ne (tgt := 64) C d_BE_place_57 (by decide) (fun hc_22 => ?_) (fun hc_22 => ?_)
        · have hw := hw.1 hc_22
          refine g_iconst (v := (nI 0)) C d_BE_place_64 (by decide) ?_
          refine g_sub [1, 2, 3, 4, 0] rfl ?_
          exact j_15 (nI 0) hw
        · have hw := hw.2 hc_22
          refine g_iconst (v := (nI 1)) C d_BE_place_60 (by decide) ?_
          refine g_goto (tgt := 65) C d_BE_place_61 (by decide) ?_
          refine g_sub [1, 2, 3, 4, 0] rfl ?_
          exact j_15 (nI 1) hw
      refine g_if_eq (tgt := 49) C d_BE_place_42 (by decide) (fun hc_23 => ?_) (fun hc_23 => ?_)
      · have hw := hw.1 hc_23
        refine g_iconst (v := (nI 0)) C d_BE_place_49 (by decide) ?_
        refine g_sub [0, 1, 2, 3] rfl ?_
        exact j_12 (nI 0) hw
      · have hw := hw.2 hc_23
        refine g_iconst (v := (nI 1)) C d_BE_place_45 (by decide) ?_
        refine g_goto (tgt := 50) C d_BE_place_46 (by decide) ?_
        refine g_sub [0, 1, 2, 3] rfl ?_
        exact j_12 (nI 1) hw
    refine g_if_ne (tgt := 35) C d_BE_place_12 (by decide) (fun hc_24 => ?_) (fun hc_24 => ?_)
    · have hw := hw.1 hc_24
      refine g_sub [1, 2, 3, 0] rfl ?_
      exact j_4  hw
    · have hw := hw.2 hc_24
      refine g_iload_n C 2 1 d_BE_place_15 rfl rfl ?_
      refine g_iconst (v := (nI 0)) C d_BE_place_16 (by decide) ?_
      refine g_sipush (v := (nI 10800)) C d_BE_place_17 (by decide) ?_
      refine g_callSi C [.int x1, .int (nI 0), .int (nI 10800)] [] (c_BE_isWithin  hw) (em_cwS C 3 mw_204 mw_205 mw_64 mw_206 rfl rfl (by decide +kernel) (by decide)) rfl rfl (Nat.le_of_ble_eq_true rfl) d_BE_place_20 (by decide) (fun r_26 M_25 hw => ?_)
      obtain ⟨rfl, hw⟩ := hw
      refine g_if_eq (tgt := 33) C d_BE_place_23 (by decide) (fun hc_27 => ?_) (fun hc_27 => ?_)
      · have hw := hw.1 hc_27
        refine g_iconst (v := (-1 : Int32)) C d_BE_place_33 (by decide) ?_
        exact g_iret C hQ rfl d_BE_place_34 hw
      · have hw := hw.2 hc_27
        refine g_iload_n C 3 2 d_BE_place_26 rfl rfl ?_
        refine g_callSi C [.int x2] [] (c_BE_isObject  hw) (em_cwS C 1 mw_207 mw_208 mw_64 mw_209 rfl rfl (by decide +kernel) (by decide)) rfl rfl (Nat.le_of_ble_eq_true rfl) d_BE_place_27 (by decide) (fun r_29 M_28 hw => ?_)
        obtain ⟨rfl, hw⟩ := hw
        refine g_if_ne (tgt := 35) C d_BE_place_30 (by decide) (fun hc_30 => ?_) (fun hc_30 => ?_)
        · have hw := hw.1 hc_30
          refine g_sub [1, 2, 3, 0] rfl ?_
          exact j_4  hw
        · have hw := hw.2 hc_30
          refine g_iconst (v := (-1 : Int32)) C d_BE_place_33 (by decide) ?_
          exact g_iret C hQ rfl d_BE_place_34 hw
  refine g_icmp_ne (tgt := 9) C d_BE_place_2 (by decide) (fun hc_31 => ?_) (fun hc_31 => ?_)
  · have hw := hw.1 hc_31
    refine g_iconst (v := (nI 0)) C d_BE_place_9 (by decide) ?_
    refine g_sub [0, 1, 2] rfl ?_
    exact j_1 (nI 0) hw
  · have hw := hw.2 hc_31
    refine g_iconst (v := (nI 1)) C d_BE_place_5 (by decide) ?_
    refine g_goto (tgt := 10) C d_BE_place_6 (by decide) ?_
    refine g_sub [0, 1, 2] rfl ?_
    exact j_1 (nI 1) hw
theorem c_BE_place {l : Launch} {D : va_G} {b0 : Nat} {cT : Nat → ClassId} {ad : Nat → Nat} {post : Int32 → em_M → Prop} {x1 : Int32} {x2 : Int32} {M : em_M}  (hw : wp_BE_place post x1 x2 M) : Met l y_BE_place (.code y_BE_place b_BE_place 5 (some .int) :: wAll) rm_BE_place (va_Pc [.ref (ad (0)), .int x1, .int x2] (em_U D b0 cT ad (SH ad) NC M)) (va_Qi post (em_U D b0 cT ad (SH ad) NC) (em_A b0)) 0 0 (em_A b0) :=
  em_met (by decide) rfl (Nat.le_of_ble_eq_true rfl) (fun X C _ _ hQ => v_BE_place  C hQ hw)
set_option maxHeartbeats 4000000 in
set_option maxRecDepth 100000 in
theorem v_BE_fits {X : em_X} {D : va_G} {b0 : Nat} {cT : Nat → ClassId} {ad : Nat → Nat} {post : Int32 → Prop} {x1 : Int32} {M : em_M}  (C : em_Cx X D b0 cT R_BE b_BE_fits (some .int) 2 rm_BE_fits) (hQ : xQ X = MQ (xB X) (va_Qi (fun r M1 => M = M1 ∧ post r) (em_U D b0 cT ad (SH ad) NC) (em_A b0)) (xA X) (xS X) 0 0 (em_A b0)) (hw : wp_BE_fits post x1 M) : em_G X D b0 cT ad 2 (SH ad) NC 0 0 M 0 [(0, .ref (ad (0))), (1, .int x1)] [] := by
  unfold wp_BE_fits at hw
  refine g_iload_n C 1 1 d_BE_fits_0 rfl rfl ?_
  refine g_callSi C [.int x1] [] (c_BE_isObject  hw) (em_cwS C 1 mw_207 mw_208 mw_64 mw_209 rfl rfl (by decide +kernel) (by decide)) rfl rfl (Nat.le_of_ble_eq_true rfl) d_BE_fits_1 (by decide) (fun r_2 M_1 hw => ?_)
  obtain ⟨rfl, hw⟩ := hw
  refine g_if_ne (tgt := 9) C d_BE_fits_4 (by decide) (fun hc_3 => ?_) (fun hc_3 => ?_)
  · have hw := hw.1 hc_3
    refine g_aload_n C 0 0 d_BE_fits_9 rfl rfl ?_
    refine g_getr C 0 1 rfl d_BE_fits_10 em_nc_BE em_sh_BE rfl (by decide) rfl in_BE mw_184 rfl ?_
    refine g_iload_n C 1 1 d_BE_fits_13 rfl rfl ?_
    refine g_callVNi C 40 rfl [.int x1] [] (c_QU_admits  hw) (em_cnB C 1 mn_45 mw_67 mw_267 rfl rfl (by decide +kernel) (by decide)) mw_266 mw_8 em_nc_QU em_sh_QU rfl rfl rfl (Nat.le_of_ble_eq_true rfl) d_BE_fits_14 (by decide) (fun r_5 M_4 hw => ?_)
    obtain ⟨rfl, hw⟩ := hw
    refine g_if_eq (tgt := 24) C d_BE_fits_17 (by decide) (fun hc_6 => ?_) (fun hc_6 => ?_)
    · have hw := hw.1 hc_6
      refine g_iconst (v := (nI 0)) C d_BE_fits_24 (by decide) ?_
      exact g_iret C hQ rfl d_BE_fits_25 ⟨rfl, hw⟩
    · have hw := hw.2 hc_6
      refine g_iconst (v := (nI 1)) C d_BE_fits_20 (by decide) ?_
      refine g_goto (tgt := 25) C d_BE_fits_21 (by decide) ?_
      exact g_iret C hQ rfl d_BE_fits_25 ⟨rfl, hw⟩
  · have hw := hw.2 hc_3
    refine g_iconst (v := (-1 : Int32)) C d_BE_fits_7 (by decide) ?_
    exact g_iret C hQ rfl d_BE_fits_8 ⟨rfl, hw⟩
theorem c_BE_fits {l : Launch} {D : va_G} {b0 : Nat} {cT : Nat → ClassId} {ad : Nat → Nat} {post : Int32 → Prop} {x1 : Int32} {M : em_M}  (hw : wp_BE_fits post x1 M) : Met l y_BE_fits (.code y_BE_fits b_BE_fits 2 (some .int) :: wAll) rm_BE_fits (va_Pc [.ref (ad (0)), .int x1] (em_U D b0 cT ad (SH ad) NC M)) (va_Qi (fun r M1 => M = M1 ∧ post r) (em_U D b0 cT ad (SH ad) NC) (em_A b0)) 0 0 (em_A b0) :=
  em_met (by decide) rfl (Nat.le_of_ble_eq_true rfl) (fun X C _ _ hQ => v_BE_fits  C hQ hw)
set_option maxHeartbeats 4000000 in
set_option maxRecDepth 100000 in
theorem v_BE_sum {X : em_X} {D : va_G} {b0 : Nat} {cT : Nat → ClassId} {ad : Nat → Nat} {post : Int32 → Prop} {x1 : Int32} {M : em_M}  (C : em_Cx X D b0 cT R_BE b_BE_sum (some .int) 2 rm_BE_sum) (hQ : xQ X = MQ (xB X) (va_Qi (fun r M1 => M = M1 ∧ post r) (em_U D b0 cT ad (SH ad) NC) (em_A b0)) (xA X) (xS X) 0 0 (em_A b0)) (hw : wp_BE_sum post x1 M) : em_G X D b0 cT ad 2 (SH ad) NC 0 0 M 0 [(0, .ref (ad (0))), (1, .int x1)] [] := by
  unfold wp_BE_sum at hw
  refine g_iload_n C 1 1 d_BE_sum_0 rfl rfl ?_
  refine g_callSi C [.int x1] [] (c_BE_isObject  hw) (em_cwS C 1 mw_207 mw_208 mw_64 mw_209 rfl rfl (by decide +kernel) (by decide)) rfl rfl (Nat.le_of_ble_eq_true rfl) d_BE_sum_1 (by decide) (fun r_2 M_1 hw => ?_)
  obtain ⟨rfl, hw⟩ := hw
  refine g_if_eq (tgt := 18) C d_BE_sum_4 (by decide) (fun hc_3 => ?_) (fun hc_3 => ?_)
  · have hw := hw.1 hc_3
    refine g_iconst (v := (-1 : Int32)) C d_BE_sum_18 (by decide) ?_
    exact g_iret C hQ rfl d_BE_sum_19 ⟨rfl, hw⟩
  · have hw := hw.2 hc_3
    refine g_aload_n C 0 0 d_BE_sum_7 rfl rfl ?_
    refine g_getr C 0 1 rfl d_BE_sum_8 em_nc_BE em_sh_BE rfl (by decide) rfl in_BE mw_184 rfl ?_
    refine g_iload_n C 1 1 d_BE_sum_11 rfl rfl ?_
    refine g_callVNi C 40 rfl [.int x1] [] (c_QU_sumOf  hw) (em_cnB C 1 mn_46 mw_67 mw_276 rfl rfl (by decide +kernel) (by decide)) mw_275 mw_10 em_nc_QU em_sh_QU rfl rfl rfl (Nat.le_of_ble_eq_true rfl) d_BE_sum_12 (by decide) (fun r_5 M_4 hw => ?_)
    obtain ⟨rfl, hw⟩ := hw
    refine g_goto (tgt := 19) C d_BE_sum_15 (by decide) ?_
    exact g_iret C hQ rfl d_BE_sum_19 ⟨rfl, hw⟩
theorem c_BE_sum {l : Launch} {D : va_G} {b0 : Nat} {cT : Nat → ClassId} {ad : Nat → Nat} {post : Int32 → Prop} {x1 : Int32} {M : em_M}  (hw : wp_BE_sum post x1 M) : Met l y_BE_sum (.code y_BE_sum b_BE_sum 2 (some .int) :: wAll) rm_BE_sum (va_Pc [.ref (ad (0)), .int x1] (em_U D b0 cT ad (SH ad) NC M)) (va_Qi (fun r M1 => M = M1 ∧ post r) (em_U D b0 cT ad (SH ad) NC) (em_A b0)) 0 0 (em_A b0) :=
  em_met (by decide) rfl (Nat.le_of_ble_eq_true rfl) (fun X C _ _ hQ => v_BE_sum  C hQ hw)
set_option maxHeartbeats 4000000 in
set_option maxRecDepth 100000 in
theorem v_BE_total {X : em_X} {D : va_G} {b0 : Nat} {cT : Nat → ClassId} {ad : Nat → Nat} {post : Int32 → Prop} {x1 : Int32} {M : em_M}  (C : em_Cx X D b0 cT R_BE b_BE_total (some .int) 4 rm_BE_total) (hQ : xQ X = MQ (xB X) (va_Qi (fun r M1 => M = M1 ∧ post r) (em_U D b0 cT ad (SH ad) NC) (em_A b0)) (xA X) (xS X) 0 0 (em_A b0)) (hw : wp_BE_total post x1 M) : em_G X D b0 cT ad 4 (SH ad) NC 0 0 M 0 [(0, .ref (ad (0))), (1, .int x1)] [] := by
  unfold wp_BE_total at hw
  refine g_iload_n C 1 1 d_BE_total_0 rfl rfl ?_
  refine g_iconst (v := (nI 1)) C d_BE_total_1 (by decide) ?_
  refine g_sipush (v := (nI 512)) C d_BE_total_2 (by decide) ?_
  refine g_callSi C [.int x1, .int (nI 1), .int (nI 512)] [] (c_BE_isWithin  hw) (em_cwS C 3 mw_204 mw_205 mw_64 mw_206 rfl rfl (by decide +kernel) (by decide)) rfl rfl (Nat.le_of_ble_eq_true rfl) d_BE_total_5 (by decide) (fun r_2 M_1 hw => ?_)
  obtain ⟨rfl, hw⟩ := hw
  refine g_if_ne (tgt := 13) C d_BE_total_8 (by decide) (fun hc_3 => ?_) (fun hc_3 => ?_)
  · have hw := hw.1 hc_3
    refine g_iconst (v := (nI 0)) C d_BE_total_13 (by decide) ?_
    refine g_istore_n (lv' := [(2, .int (nI 0)), (0, .ref (ad (0))), (1, .int x1)]) C 2 d_BE_total_14 rfl (by decide) rfl ?_
    refine g_iconst (v := (nI 0)) C d_BE_total_15 (by decide) ?_
    refine g_istore_n (lv' := [(3, .int (nI 0)), (2, .int (nI 0)), (0, .ref (ad (0))), (1, .int x1)]) C 3 d_BE_total_16 rfl (by decide) rfl ?_
    obtain ⟨I_4, mu_4, h0, hw⟩ := hw
    refine g_sub [2, 3, 1, 0] rfl ?_
    have lp_4 : ∀ (n_4 : Nat) (x2_5 : Int32) (x3_6 : Int32) , mu_4 x2_5 x3_6 < n_4 → I_4 x2_5 x3_6 → em_G X D b0 cT ad 4 (SH ad) NC 0 0 M 17 [(0, .ref (ad (0))), (1, .int x1), (2, .int x2_5), (3, .int x3_6)] [] := by
      intro n_4
      induction n_4 with
      | zero => intro x2_5 x3_6 h; exact absurd h (Nat.not_lt_zero _)
      | succ n_4 ih_4 =>
        intro x2_5 x3_6 hn_4 hi
        have hw := hw x2_5 x3_6 hi
        refine g_iload_n C 3 3 d_BE_total_17 rfl rfl ?_
        refine g_sipush (v := (nI 512)) C d_BE_total_18 (by decide) ?_
        refine g_icmp_ge (tgt := 49) C d_BE_total_21 (by decide) (fun hc_7 => ?_) (fun hc_7 => ?_)
        · have hw := hw.1 hc_7
          refine g_iload_n C 2 2 d_BE_total_49 rfl rfl ?_
          exact g_iret C hQ rfl d_BE_total_50 ⟨rfl, hw⟩
        · have hw := hw.2 hc_7
          refine g_iload_n C 2 2 d_BE_total_24 rfl rfl ?_
          refine g_iload_n C 1 1 d_BE_total_25 rfl rfl ?_
          refine g_icmp_ge (tgt := 49) C d_BE_total_26 (by decide) (fun hc_8 => ?_) (fun hc_8 => ?_)
          · have hw := hw.1 hc_8
            refine g_iload_n C 2 2 d_BE_total_49 rfl rfl ?_
            exact g_iret C hQ rfl d_BE_total_50 ⟨rfl, hw⟩
          · have hw := hw.2 hc_8
            refine g_aload_n C 0 0 d_BE_total_29 rfl rfl ?_
            refine g_getr C 0 1 rfl d_BE_total_30 em_nc_BE em_sh_BE rfl (by decide) rfl in_BE mw_184 rfl ?_
            refine g_iload_n C 3 3 d_BE_total_33 rfl rfl ?_
            refine g_callVNi C 40 rfl [.int x3_6] [] (c_QU_admits  hw) (em_cnB C 1 mn_45 mw_67 mw_267 rfl rfl (by decide +kernel) (by decide)) mw_266 mw_8 em_nc_QU em_sh_QU rfl rfl rfl (Nat.le_of_ble_eq_true rfl) d_BE_total_34 (by decide) (fun r_10 M_9 hw => ?_)
            obtain ⟨rfl, hw⟩ := hw
            obtain ⟨J_11, hJ_11, hw⟩ := em_jn1 hw
            have j_11 : ∀ (x2_14 : Int32) , J_11 x2_14 → em_G X D b0 cT ad 4 (SH ad) NC 0 0 M 43 [(0, .ref (ad (0))), (1, .int x1), (2, .int x2_14), (3, .int x3_6)] [] := by
              intro x2_14 hw
              have hw := hJ_11 x2_14 hw
              obtain ⟨x3_15, ex3_15⟩ : ∃ y : Int32, y = x3_6 + nI 1 := ⟨_, rfl⟩
              have hw := hw x3_15 ex3_15
              refine g_iinc (v := x3_15) (lv' := [(3, .int x3_15), (0, .ref (ad (0))), (1, .int x1), (2, .int x2_14)]) C 3 d_BE_total_43 rfl (by rw [ex3_15]; first | rfl | (congr 1)) (by decide) rfl ?_
              refine g_goto (tgt := 17) C d_BE_total_46 (by decide) ?_
              refine g_sub [1, 2, 3, 0] rfl ?_
              exact ih_4 x2_14 x3_15 (Nat.lt_of_lt_of_le hw.2 (Nat.le_of_lt_succ hn_4)) hw.1
            refine g_if_eq (tgt := 43) C d_BE_total_37 (by decide) (fun hc_16 => ?_) (fun hc_16 => ?_)
            · have hw := hw.1 hc_16
              refine g_sub [0, 1, 2, 3] rfl ?_
              exact j_11 x2_5 hw
            · have hw := hw.2 hc_16
              obtain ⟨x2_17, ex2_17⟩ : ∃ y : Int32, y = x2_5 + nI 1 := ⟨_, rfl⟩
              have hw := hw x2_17 ex2_17
              refine g_iinc (v := x2_17) (lv' := [(2, .int x2_17), (0, .ref (ad (0))), (1, .int x1), (3, .int x3_6)]) C 2 d_BE_total_40 rfl (by rw [ex2_17]; first | rfl | (congr 1)) (by decide) rfl ?_
              refine g_sub [1, 2, 0, 3] rfl ?_
              exact j_11 x2_17 hw
    exact lp_4 _ (nI 0) (nI 0) (Nat.lt_succ_self _) h0
  · have hw := hw.2 hc_3
    refine g_iconst (v := (-1 : Int32)) C d_BE_total_11 (by decide) ?_
    exact g_iret C hQ rfl d_BE_total_12 ⟨rfl, hw⟩
theorem c_BE_total {l : Launch} {D : va_G} {b0 : Nat} {cT : Nat → ClassId} {ad : Nat → Nat} {post : Int32 → Prop} {x1 : Int32} {M : em_M}  (hw : wp_BE_total post x1 M) : Met l y_BE_total (.code y_BE_total b_BE_total 4 (some .int) :: wAll) rm_BE_total (va_Pc [.ref (ad (0)), .int x1] (em_U D b0 cT ad (SH ad) NC M)) (va_Qi (fun r M1 => M = M1 ∧ post r) (em_U D b0 cT ad (SH ad) NC) (em_A b0)) 0 0 (em_A b0) :=
  em_met (by decide) rfl (Nat.le_of_ble_eq_true rfl) (fun X C _ _ hQ => v_BE_total  C hQ hw)
set_option maxHeartbeats 4000000 in
set_option maxRecDepth 100000 in
theorem v_BE_walk {X : em_X} {D : va_G} {b0 : Nat} {cT : Nat → ClassId} {ad : Nat → Nat} {post : Int32 → em_M → Prop} {x1 : Int32} {M : em_M}  (C : em_Cx X D b0 cT R_BE b_BE_walk (some .int) 2 rm_BE_walk) (hQ : xQ X = MQ (xB X) (va_Qi post (em_U D b0 cT ad (SH ad) NC) (em_A b0)) (xA X) (xS X) 0 0 (em_A b0)) (hw : wp_BE_walk post x1 M) : em_G X D b0 cT ad 2 (SH ad) NC 0 0 M 0 [(0, .ref (ad (0))), (1, .int x1)] [] := by
  unfold wp_BE_walk at hw
  refine g_iload_n C 1 1 d_BE_walk_0 rfl rfl ?_
  refine g_iconst (v := (nI 1)) C d_BE_walk_1 (by decide) ?_
  refine g_sipush (v := (nI 10000)) C d_BE_walk_2 (by decide) ?_
  refine g_callSi C [.int x1, .int (nI 1), .int (nI 10000)] [] (c_BE_isWithin  hw) (em_cwS C 3 mw_204 mw_205 mw_64 mw_206 rfl rfl (by decide +kernel) (by decide)) rfl rfl (Nat.le_of_ble_eq_true rfl) d_BE_walk_5 (by decide) (fun r_2 M_1 hw => ?_)
  obtain ⟨rfl, hw⟩ := hw
  refine g_if_ne (tgt := 13) C d_BE_walk_8 (by decide) (fun hc_3 => ?_) (fun hc_3 => ?_)
  · have hw := hw.1 hc_3
    refine g_aload_n C 0 0 d_BE_walk_13 rfl rfl ?_
    refine g_getr C 0 3 rfl d_BE_walk_14 em_nc_BE em_sh_BE rfl (by decide) rfl in_BE mw_186 rfl ?_
    refine g_iload_n C 1 1 d_BE_walk_17 rfl rfl ?_
    refine g_callVNv C 48 rfl [.int x1] [] (c_LW_run  hw) (em_cnB C 1 mn_47 mw_69 mw_286 rfl rfl (by decide +kernel) (by decide)) mw_285 mw_11 em_nc_LW em_sh_LW rfl rfl rfl (Nat.le_of_ble_eq_true rfl) d_BE_walk_18 (by decide) (fun M_4 hw => ?_)
    refine g_aload_n C 0 0 d_BE_walk_21 rfl rfl ?_
    refine g_iconst (v := (nI 1)) C d_BE_walk_22 (by decide) ?_
    refine g_puti C 0 5 rfl ty_BE tyok_BE nm_BE d_BE_walk_23 em_nc_BE em_sh_BE rfl (by decide) rfl in_BE mw_188 rfl rfl rfl rfl rfl ?_
    refine g_nameM (fun M_5 eM_5 => ?_)
    have hw := hw M_5 eM_5
    refine g_aload_n C 0 0 d_BE_walk_26 rfl rfl ?_
    refine g_iconst (v := (nI 0)) C d_BE_walk_27 (by decide) ?_
    refine g_puti C 0 6 rfl ty_BE tyok_BE nm_BE d_BE_walk_28 em_nc_BE em_sh_BE rfl (by decide) rfl in_BE mw_189 rfl rfl rfl rfl rfl ?_
    refine g_nameM (fun M_6 eM_6 => ?_)
    have hw := hw M_6 eM_6
    refine g_aload_n C 0 0 d_BE_walk_31 rfl rfl ?_
    refine g_getr C 0 2 rfl d_BE_walk_32 em_nc_BE em_sh_BE rfl (by decide) rfl in_BE mw_185 rfl ?_
    refine g_getiN C 43 4 rfl d_BE_walk_35 em_nc_RK em_sh_RK rfl (by decide) rfl in_RK mn_24 rfl ?_
    exact g_iret C hQ rfl d_BE_walk_38 hw
  · have hw := hw.2 hc_3
    refine g_iconst (v := (-1 : Int32)) C d_BE_walk_11 (by decide) ?_
    exact g_iret C hQ rfl d_BE_walk_12 hw
theorem c_BE_walk {l : Launch} {D : va_G} {b0 : Nat} {cT : Nat → ClassId} {ad : Nat → Nat} {post : Int32 → em_M → Prop} {x1 : Int32} {M : em_M}  (hw : wp_BE_walk post x1 M) : Met l y_BE_walk (.code y_BE_walk b_BE_walk 2 (some .int) :: wAll) rm_BE_walk (va_Pc [.ref (ad (0)), .int x1] (em_U D b0 cT ad (SH ad) NC M)) (va_Qi post (em_U D b0 cT ad (SH ad) NC) (em_A b0)) 0 0 (em_A b0) :=
  em_met (by decide) rfl (Nat.le_of_ble_eq_true rfl) (fun X C _ _ hQ => v_BE_walk  C hQ hw)
set_option maxHeartbeats 4000000 in
set_option maxRecDepth 100000 in
theorem v_BE_keys {X : em_X} {D : va_G} {b0 : Nat} {cT : Nat → ClassId} {ad : Nat → Nat} {post : Int32 → em_M → Prop}  {M : em_M}  (C : em_Cx X D b0 cT R_BE b_BE_keys (some .int) 1 rm_BE_keys) (hQ : xQ X = MQ (xB X) (va_Qi post (em_U D b0 cT ad (SH ad) NC) (em_A b0)) (xA X) (xS X) 0 0 (em_A b0)) (hw : wp_BE_keys post  M) : em_G X D b0 cT ad 1 (SH ad) NC 0 0 M 0 [(0, .ref (ad (0)))] [] := by
  unfold wp_BE_keys at hw
  refine g_aload_n C 0 0 d_BE_keys_0 rfl rfl ?_
  refine g_getr C 0 4 rfl d_BE_keys_1 em_nc_BE em_sh_BE rfl (by decide) rfl in_BE mw_187 rfl ?_
  refine g_callVNv C 51 rfl [] [] (c_KS_run  hw) (em_cnB C 0 mn_61 mw_70 mw_362 rfl rfl (by decide +kernel) (by decide)) mw_361 mw_35 em_nc_KS em_sh_KS rfl rfl rfl (Nat.le_of_ble_eq_true rfl) d_BE_keys_4 (by decide) (fun M_1 hw => ?_)
  refine g_aload_n C 0 0 d_BE_keys_7 rfl rfl ?_
  refine g_iconst (v := (nI 1)) C d_BE_keys_8 (by decide) ?_
  refine g_puti C 0 5 rfl ty_BE tyok_BE nm_BE d_BE_keys_9 em_nc_BE em_sh_BE rfl (by decide) rfl in_BE mw_188 rfl rfl rfl rfl rfl ?_
  refine g_nameM (fun M_2 eM_2 => ?_)
  have hw := hw M_2 eM_2
  refine g_aload_n C 0 0 d_BE_keys_12 rfl rfl ?_
  refine g_iconst (v := (nI 1)) C d_BE_keys_13 (by decide) ?_
  refine g_puti C 0 6 rfl ty_BE tyok_BE nm_BE d_BE_keys_14 em_nc_BE em_sh_BE rfl (by decide) rfl in_BE mw_189 rfl rfl rfl rfl rfl ?_
  refine g_nameM (fun M_3 eM_3 => ?_)
  have hw := hw M_3 eM_3
  refine g_aload_n C 0 0 d_BE_keys_17 rfl rfl ?_
  refine g_getr C 0 2 rfl d_BE_keys_18 em_nc_BE em_sh_BE rfl (by decide) rfl in_BE mw_185 rfl ?_
  refine g_getiN C 43 4 rfl d_BE_keys_21 em_nc_RK em_sh_RK rfl (by decide) rfl in_RK mn_24 rfl ?_
  exact g_iret C hQ rfl d_BE_keys_24 hw
theorem c_BE_keys {l : Launch} {D : va_G} {b0 : Nat} {cT : Nat → ClassId} {ad : Nat → Nat} {post : Int32 → em_M → Prop}  {M : em_M}  (hw : wp_BE_keys post  M) : Met l y_BE_keys (.code y_BE_keys b_BE_keys 1 (some .int) :: wAll) rm_BE_keys (va_Pc [.ref (ad (0))] (em_U D b0 cT ad (SH ad) NC M)) (va_Qi post (em_U D b0 cT ad (SH ad) NC) (em_A b0)) 0 0 (em_A b0) :=
  em_met (by decide) rfl (Nat.le_of_ble_eq_true rfl) (fun X C _ _ hQ => v_BE_keys  C hQ hw)
set_option maxHeartbeats 4000000 in
set_option maxRecDepth 100000 in
theorem v_BE_anew {X : em_X} {D : va_G} {b0 : Nat} {cT : Nat → ClassId} {ad : Nat → Nat} {post : Int32 → em_M → Prop} {x1 : Int32} {x2 : Int32} {M : em_M}  (C : em_Cx X D b0 cT R_BE b_BE_anew (some .int) 3 rm_BE_anew) (hQ : xQ X = MQ (xB X) (va_Qi post (em_U D b0 cT ad (SH ad) NC) (em_A b0)) (xA X) (xS X) 0 0 (em_A b0)) (hw : wp_BE_anew post x1 x2 M) : em_G X D b0 cT ad 3 (SH ad) NC 0 0 M 0 [(0, .ref (ad (0))), (1, .int x1), (2, .int x2)] [] := by
  unfold wp_BE_anew at hw
  refine g_iload_n C 1 1 d_BE_anew_0 rfl rfl ?_
  refine g_iconst (v := (nI 0)) C d_BE_anew_1 (by decide) ?_
  refine g_bipush (v := (nI 20)) C d_BE_anew_2 (by decide) ?_
  refine g_callSi C [.int x1, .int (nI 0), .int (nI 20)] [] (c_BE_isWithin  hw) (em_cwS C 3 mw_204 mw_205 mw_64 mw_206 rfl rfl (by decide +kernel) (by decide)) rfl rfl (Nat.le_of_ble_eq_true rfl) d_BE_anew_4 (by decide) (fun r_2 M_1 hw => ?_)
  obtain ⟨rfl, hw⟩ := hw
  refine g_if_eq (tgt := 21) C d_BE_anew_7 (by decide) (fun hc_3 => ?_) (fun hc_3 => ?_)
  · have hw := hw.1 hc_3
    refine g_iconst (v := (-1 : Int32)) C d_BE_anew_21 (by decide) ?_
    exact g_iret C hQ rfl d_BE_anew_22 hw
  · have hw := hw.2 hc_3
    refine g_iload_n C 2 2 d_BE_anew_10 rfl rfl ?_
    refine g_bipush (v := (-9 : Int32)) C d_BE_anew_11 (by decide) ?_
    refine g_bipush (v := (nI 9)) C d_BE_anew_13 (by decide) ?_
    refine g_callSi C [.int x2, .int (-9 : Int32), .int (nI 9)] [] (c_BE_isWithin  hw) (em_cwS C 3 mw_204 mw_205 mw_64 mw_206 rfl rfl (by decide +kernel) (by decide)) rfl rfl (Nat.le_of_ble_eq_true rfl) d_BE_anew_15 (by decide) (fun r_5 M_4 hw => ?_)
    obtain ⟨rfl, hw⟩ := hw
    refine g_if_ne (tgt := 23) C d_BE_anew_18 (by decide) (fun hc_6 => ?_) (fun hc_6 => ?_)
    · have hw := hw.1 hc_6
      refine g_aload_n C 0 0 d_BE_anew_23 rfl rfl ?_
      refine g_geti C 0 5 rfl d_BE_anew_24 em_nc_BE em_sh_BE rfl (by decide) rfl in_BE mw_188 rfl ?_
      refine g_if_eq (tgt := 46) C d_BE_anew_27 (by decide) (fun hc_7 => ?_) (fun hc_7 => ?_)
      · have hw := hw.1 hc_7
        refine g_bipush (v := (-2 : Int32)) C d_BE_anew_46 (by decide) ?_
        exact g_iret C hQ rfl d_BE_anew_48 hw
      · have hw := hw.2 hc_7
        refine g_aload_n C 0 0 d_BE_anew_30 rfl rfl ?_
        refine g_getr C 0 2 rfl d_BE_anew_31 em_nc_BE em_sh_BE rfl (by decide) rfl in_BE mw_185 rfl ?_
        refine g_iload_n C 1 1 d_BE_anew_34 rfl rfl ?_
        refine g_iload_n C 2 2 d_BE_anew_35 rfl rfl ?_
        refine g_aload_n C 0 0 d_BE_anew_36 rfl rfl ?_
        refine g_geti C 0 6 rfl d_BE_anew_37 em_nc_BE em_sh_BE rfl (by decide) rfl in_BE mw_189 rfl ?_
        refine g_callVNi C 43 rfl [.int x1, .int x2, .int (M (0) 6)] [] (c_RK_rescore  hw) (em_cnB C 3 mn_69 mw_68 mw_376 rfl rfl (by decide +kernel) (by decide)) mw_375 mw_39 em_nc_RK em_sh_RK rfl rfl rfl (Nat.le_of_ble_eq_true rfl) d_BE_anew_40 (by decide) (fun r_9 M_8 hw => ?_)
        refine g_goto (tgt := 48) C d_BE_anew_43 (by decide) ?_
        exact g_iret C hQ rfl d_BE_anew_48 hw
    · have hw := hw.2 hc_6
      refine g_iconst (v := (-1 : Int32)) C d_BE_anew_21 (by decide) ?_
      exact g_iret C hQ rfl d_BE_anew_22 hw
theorem c_BE_anew {l : Launch} {D : va_G} {b0 : Nat} {cT : Nat → ClassId} {ad : Nat → Nat} {post : Int32 → em_M → Prop} {x1 : Int32} {x2 : Int32} {M : em_M}  (hw : wp_BE_anew post x1 x2 M) : Met l y_BE_anew (.code y_BE_anew b_BE_anew 3 (some .int) :: wAll) rm_BE_anew (va_Pc [.ref (ad (0)), .int x1, .int x2] (em_U D b0 cT ad (SH ad) NC M)) (va_Qi post (em_U D b0 cT ad (SH ad) NC) (em_A b0)) 0 0 (em_A b0) :=
  em_met (by decide) rfl (Nat.le_of_ble_eq_true rfl) (fun X C _ _ hQ => v_BE_anew  C hQ hw)
