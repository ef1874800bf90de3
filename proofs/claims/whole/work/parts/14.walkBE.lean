/-! THE WALKS, written by wip/gen -/
set_option maxHeartbeats 4000000 in
set_option maxRecDepth 100000 in
theorem v_BE_answer {X : em_X} {D : va_G} {b0 : Nat} {cT : Nat → ClassId} {ad : Nat → Nat} {post : Int32 → Prop} {x1 : Int32} {x2 : Int32} {M : em_M}  (C : em_Cx X D b0 cT R_BE b_BE_answer (some .int) 3 rm_BE_answer) (hQ : xQ X = MQ (xB X) (va_Qi (fun r M1 => M = M1 ∧ post r) (em_U D b0 cT ad (SH ad) NC) (em_A b0)) (xA X) (xS X) 0 0 (em_A b0)) (hw : wp_BE_answer post x1 x2 M) : em_G X D b0 cT ad 3 (SH ad) NC 0 0 M 0 [(0, .ref (ad (0))), (1, .int x1), (2, .int x2)] [] := by
  unfold wp_BE_answer at hw
  refine g_iload_n C 1 1 d_BE_answer_0 rfl rfl ?_
  refine g_iconst (v := (nI 0)) C d_BE_answer_1 (by decide) ?_
  refine g_aload_n C 0 0 d_BE_answer_2 rfl rfl ?_
  refine g_getr C 0 2 rfl d_BE_answer_3 em_nc_BE em_sh_BE rfl (by decide) rfl in_BE mw_185 rfl ?_
  refine g_getiN C 43 4 rfl d_BE_answer_6 em_nc_RK em_sh_RK rfl (by decide) rfl in_RK mn_24 rfl ?_
  refine g_iconst (v := (nI 1)) C d_BE_answer_9 (by decide) ?_
  refine g_isub C d_BE_answer_10 ?_
  refine g_callSi C [.int x1, .int (nI 0), .int ((M (43) 4) - (nI 1))] [] (c_BE_isWithin  hw) (em_cwS C 3 mw_204 mw_205 mw_64 mw_206 rfl rfl (by decide +kernel) (by decide)) rfl rfl (Nat.le_of_ble_eq_true rfl) d_BE_answer_11 (by decide) (fun r_2 M_1 hw => ?_)
  obtain ⟨rfl, hw⟩ := hw
  refine g_if_ne (tgt := 19) C d_BE_answer_14 (by decide) (fun hc_3 => ?_) (fun hc_3 => ?_)
  · have hw := hw.1 hc_3
    refine g_iload_n C 2 2 d_BE_answer_19 rfl rfl ?_
    obtain ⟨hwd, hw⟩ := hw
    rcases em_ix x2 (lo := 0) (hi := 4) (by decide) with hs_4 | hs_4 | ⟨jhs_4, hlhs_4, hjhs_4, hs_4⟩
    · have hw := hwd (Or.inl hs_4)
      refine g_tableOut (tgt := 92) C d_BE_answer_20 (Or.inl (em_sw0 (by decide) hs_4)) (by decide) ?_
      refine g_iconst (v := (-1 : Int32)) C d_BE_answer_92 (by decide) ?_
      exact g_iret C hQ rfl d_BE_answer_93 ⟨rfl, hw⟩
    · have hw := hwd (Or.inr hs_4)
      refine g_tableOut (tgt := 92) C d_BE_answer_20 (Or.inr (em_sw1 (by decide) hs_4)) (by decide) ?_
      refine g_iconst (v := (-1 : Int32)) C d_BE_answer_92 (by decide) ?_
      exact g_iret C hQ rfl d_BE_answer_93 ⟨rfl, hw⟩
    · have hw := hw
      rcases (show jhs_4 = 0 ∨ jhs_4 = 1 ∨ jhs_4 = 2 ∨ jhs_4 = 3 by omega) with rfl | rfl | rfl | rfl
      · have hw := hw.1 hs_4
        refine g_tableIn (tgt := 52) (off := 32) C d_BE_answer_20 (by rw [hs_4]; decide) (by rw [hs_4]; decide) (by rw [hs_4]; rfl) (by decide) ?_
        refine g_aload_n C 0 0 d_BE_answer_52 rfl rfl ?_
        refine g_getr C 0 2 rfl d_BE_answer_53 em_nc_BE em_sh_BE rfl (by decide) rfl in_BE mw_185 rfl ?_
        refine g_getrN C 43 0 rfl d_BE_answer_56 em_nc_RK em_sh_RK rfl (by decide) rfl in_RK mn_20 rfl ?_
        refine g_iload_n C 1 1 d_BE_answer_59 rfl rfl ?_
        obtain ⟨hb_5, hw⟩ := hw
        refine g_iald C 44 rfl d_BE_answer_60 em_nc_rObj em_sh_rObj rfl hb_5 ?_
        exact g_iret C hQ rfl d_BE_answer_61 ⟨rfl, hw⟩
      · have hw := hw.2.1 hs_4
        refine g_tableIn (tgt := 62) (off := 42) C d_BE_answer_20 (by rw [hs_4]; decide) (by rw [hs_4]; decide) (by rw [hs_4]; rfl) (by decide) ?_
        refine g_aload_n C 0 0 d_BE_answer_62 rfl rfl ?_
        refine g_getr C 0 2 rfl d_BE_answer_63 em_nc_BE em_sh_BE rfl (by decide) rfl in_BE mw_185 rfl ?_
        refine g_getrN C 43 1 rfl d_BE_answer_66 em_nc_RK em_sh_RK rfl (by decide) rfl in_RK mn_21 rfl ?_
        refine g_iload_n C 1 1 d_BE_answer_69 rfl rfl ?_
        obtain ⟨hb_6, hw⟩ := hw
        refine g_iald C 45 rfl d_BE_answer_70 em_nc_rNum em_sh_rNum rfl hb_6 ?_
        exact g_iret C hQ rfl d_BE_answer_71 ⟨rfl, hw⟩
      · have hw := hw.2.2.1 hs_4
        refine g_tableIn (tgt := 72) (off := 52) C d_BE_answer_20 (by rw [hs_4]; decide) (by rw [hs_4]; decide) (by rw [hs_4]; rfl) (by decide) ?_
        refine g_aload_n C 0 0 d_BE_answer_72 rfl rfl ?_
        refine g_getr C 0 2 rfl d_BE_answer_73 em_nc_BE em_sh_BE rfl (by decide) rfl in_BE mw_185 rfl ?_
        refine g_getrN C 43 2 rfl d_BE_answer_76 em_nc_RK em_sh_RK rfl (by decide) rfl in_RK mn_22 rfl ?_
        refine g_iload_n C 1 1 d_BE_answer_79 rfl rfl ?_
        obtain ⟨hb_7, hw⟩ := hw
        refine g_iald C 46 rfl d_BE_answer_80 em_nc_rSum em_sh_rSum rfl hb_7 ?_
        exact g_iret C hQ rfl d_BE_answer_81 ⟨rfl, hw⟩
      · have hw := hw.2.2.2 hs_4
        refine g_tableIn (tgt := 82) (off := 62) C d_BE_answer_20 (by rw [hs_4]; decide) (by rw [hs_4]; decide) (by rw [hs_4]; rfl) (by decide) ?_
        refine g_aload_n C 0 0 d_BE_answer_82 rfl rfl ?_
        refine g_getr C 0 2 rfl d_BE_answer_83 em_nc_BE em_sh_BE rfl (by decide) rfl in_BE mw_185 rfl ?_
        refine g_getrN C 43 3 rfl d_BE_answer_86 em_nc_RK em_sh_RK rfl (by decide) rfl in_RK mn_23 rfl ?_
        refine g_iload_n C 1 1 d_BE_answer_89 rfl rfl ?_
        obtain ⟨hb_8, hw⟩ := hw
        refine g_iald C 47 rfl d_BE_answer_90 em_nc_rKey em_sh_rKey rfl hb_8 ?_
        exact g_iret C hQ rfl d_BE_answer_91 ⟨rfl, hw⟩
  · have hw := hw.2 hc_3
    refine g_iconst (v := (-1 : Int32)) C d_BE_answer_17 (by decide) ?_
    exact g_iret C hQ rfl d_BE_answer_18 ⟨rfl, hw⟩
theorem c_BE_answer {l : Launch} {D : va_G} {b0 : Nat} {cT : Nat → ClassId} {ad : Nat → Nat} {post : Int32 → Prop} {x1 : Int32} {x2 : Int32} {M : em_M}  (hw : wp_BE_answer post x1 x2 M) : Met l y_BE_answer (.code y_BE_answer b_BE_answer 3 (some .int) :: wAll) rm_BE_answer (va_Pc [.ref (ad (0)), .int x1, .int x2] (em_U D b0 cT ad (SH ad) NC M)) (va_Qi (fun r M1 => M = M1 ∧ post r) (em_U D b0 cT ad (SH ad) NC) (em_A b0)) 0 0 (em_A b0) :=
  em_met (by decide) rfl (Nat.le_of_ble_eq_true rfl) (fun X C _ _ hQ => v_BE_answer  C hQ hw)
set_option maxHeartbeats 4000000 in
set_option maxRecDepth 100000 in
theorem v_BE_told {X : em_X} {D : va_G} {b0 : Nat} {cT : Nat → ClassId} {ad : Nat → Nat} {post : Int32 → Prop} {x1 : Int32} {M : em_M}  (C : em_Cx X D b0 cT R_BE b_BE_told (some .int) 2 rm_BE_told) (hQ : xQ X = MQ (xB X) (va_Qi (fun r M1 => M = M1 ∧ post r) (em_U D b0 cT ad (SH ad) NC) (em_A b0)) (xA X) (xS X) 0 0 (em_A b0)) (hw : wp_BE_told post x1 M) : em_G X D b0 cT ad 2 (SH ad) NC 0 0 M 0 [(0, .ref (ad (0))), (1, .int x1)] [] := by
  unfold wp_BE_told at hw
  refine g_iload_n C 1 1 d_BE_told_0 rfl rfl ?_
  obtain ⟨hwd, hw⟩ := hw
  rcases em_ix x1 (lo := 0) (hi := 9) (by decide) with hs_1 | hs_1 | ⟨jhs_1, hlhs_1, hjhs_1, hs_1⟩
  · have hw := hwd (Or.inl hs_1)
    refine g_tableOut (tgt := 124) C d_BE_told_1 (Or.inl (em_sw0 (by decide) hs_1)) (by decide) ?_
    refine g_iconst (v := (-1 : Int32)) C d_BE_told_124 (by decide) ?_
    exact g_iret C hQ rfl d_BE_told_125 ⟨rfl, hw⟩
  · have hw := hwd (Or.inr hs_1)
    refine g_tableOut (tgt := 124) C d_BE_told_1 (Or.inr (em_sw1 (by decide) hs_1)) (by decide) ?_
    refine g_iconst (v := (-1 : Int32)) C d_BE_told_124 (by decide) ?_
    exact g_iret C hQ rfl d_BE_told_125 ⟨rfl, hw⟩
  · have hw := hw
    rcases (show jhs_1 = 0 ∨ jhs_1 = 1 ∨ jhs_1 = 2 ∨ jhs_1 = 3 ∨ jhs_1 = 4 ∨ jhs_1 = 5 ∨ jhs_1 = 6 ∨ jhs_1 = 7 ∨ jhs_1 = 8 by omega) with rfl | rfl | rfl | rfl | rfl | rfl | rfl | rfl | rfl
    · have hw := hw.1 hs_1
      refine g_tableIn (tgt := 52) (off := 51) C d_BE_told_1 (by rw [hs_1]; decide) (by rw [hs_1]; decide) (by rw [hs_1]; rfl) (by decide) ?_
      refine g_aload_n C 0 0 d_BE_told_52 rfl rfl ?_
      refine g_getr C 0 3 rfl d_BE_told_53 em_nc_BE em_sh_BE rfl (by decide) rfl in_BE mw_186 rfl ?_
      refine g_getiN C 48 5 rfl d_BE_told_56 em_nc_LW em_sh_LW rfl (by decide) rfl in_LW mn_25 rfl ?_
      exact g_iret C hQ rfl d_BE_told_59 ⟨rfl, hw⟩
    · have hw := hw.2.1 hs_1
      refine g_tableIn (tgt := 60) (off := 59) C d_BE_told_1 (by rw [hs_1]; decide) (by rw [hs_1]; decide) (by rw [hs_1]; rfl) (by decide) ?_
      refine g_aload_n C 0 0 d_BE_told_60 rfl rfl ?_
      refine g_getr C 0 3 rfl d_BE_told_61 em_nc_BE em_sh_BE rfl (by decide) rfl in_BE mw_186 rfl ?_
      refine g_getiN C 48 6 rfl d_BE_told_64 em_nc_LW em_sh_LW rfl (by decide) rfl in_LW mn_26 rfl ?_
      exact g_iret C hQ rfl d_BE_told_67 ⟨rfl, hw⟩
    · have hw := hw.2.2.1 hs_1
      refine g_tableIn (tgt := 68) (off := 67) C d_BE_told_1 (by rw [hs_1]; decide) (by rw [hs_1]; decide) (by rw [hs_1]; rfl) (by decide) ?_
      refine g_aload_n C 0 0 d_BE_told_68 rfl rfl ?_
      refine g_getr C 0 3 rfl d_BE_told_69 em_nc_BE em_sh_BE rfl (by decide) rfl in_BE mw_186 rfl ?_
      refine g_getiN C 48 7 rfl d_BE_told_72 em_nc_LW em_sh_LW rfl (by decide) rfl in_LW mn_27 rfl ?_
      exact g_iret C hQ rfl d_BE_told_75 ⟨rfl, hw⟩
    · have hw := hw.2.2.2.1 hs_1
      refine g_tableIn (tgt := 76) (off := 75) C d_BE_told_1 (by rw [hs_1]; decide) (by rw [hs_1]; decide) (by rw [hs_1]; rfl) (by decide) ?_
      refine g_aload_n C 0 0 d_BE_told_76 rfl rfl ?_
      refine g_getr C 0 3 rfl d_BE_told_77 em_nc_BE em_sh_BE rfl (by decide) rfl in_BE mw_186 rfl ?_
      refine g_getiN C 48 8 rfl d_BE_told_80 em_nc_LW em_sh_LW rfl (by decide) rfl in_LW mn_28 rfl ?_
      exact g_iret C hQ rfl d_BE_told_83 ⟨rfl, hw⟩
    · have hw := hw.2.2.2.2.1 hs_1
      refine g_tableIn (tgt := 84) (off := 83) C d_BE_told_1 (by rw [hs_1]; decide) (by rw [hs_1]; decide) (by rw [hs_1]; rfl) (by decide) ?_
      refine g_aload_n C 0 0 d_BE_told_84 rfl rfl ?_
      refine g_getr C 0 3 rfl d_BE_told_85 em_nc_BE em_sh_BE rfl (by decide) rfl in_BE mw_186 rfl ?_
      refine g_getiN C 48 9 rfl d_BE_told_88 em_nc_LW em_sh_LW rfl (by decide) rfl in_LW mn_29 rfl ?_
      exact g_iret C hQ rfl d_BE_told_91 ⟨rfl, hw⟩
    · have hw := hw.2.2.2.2.2.1 hs_1
      refine g_tableIn (tgt := 92) (off := 91) C d_BE_told_1 (by rw [hs_1]; decide) (by rw [hs_1]; decide) (by rw [hs_1]; rfl) (by decide) ?_
      refine g_aload_n C 0 0 d_BE_told_92 rfl rfl ?_
      refine g_getr C 0 3 rfl d_BE_told_93 em_nc_BE em_sh_BE rfl (by decide) rfl in_BE mw_186 rfl ?_
      refine g_getiN C 48 10 rfl d_BE_told_96 em_nc_LW em_sh_LW rfl (by decide) rfl in_LW mn_30 rfl ?_
      exact g_iret C hQ rfl d_BE_told_99 ⟨rfl, hw⟩
    · have hw := hw.2.2.2.2.2.2.1 hs_1
      refine g_tableIn (tgt := 100) (off := 99) C d_BE_told_1 (by rw [hs_1]; decide) (by rw [hs_1]; decide) (by rw [hs_1]; rfl) (by decide) ?_
      refine g_aload_n C 0 0 d_BE_told_100 rfl rfl ?_
      refine g_getr C 0 3 rfl d_BE_told_101 em_nc_BE em_sh_BE rfl (by decide) rfl in_BE mw_186 rfl ?_
      refine g_getiN C 48 11 rfl d_BE_told_104 em_nc_LW em_sh_LW rfl (by decide) rfl in_LW mn_31 rfl ?_
      exact g_iret C hQ rfl d_BE_told_107 ⟨rfl, hw⟩
    · have hw := hw.2.2.2.2.2.2.2.1 hs_1
      refine g_tableIn (tgt := 108) (off := 107) C d_BE_told_1 (by rw [hs_1]; decide) (by rw [hs_1]; decide) (by rw [hs_1]; rfl) (by decide) ?_
      refine g_aload_n C 0 0 d_BE_told_108 rfl rfl ?_
      refine g_getr C 0 4 rfl d_BE_told_109 em_nc_BE em_sh_BE rfl (by decide) rfl in_BE mw_187 rfl ?_
      refine g_getiN C 51 3 rfl d_BE_told_112 em_nc_KS em_sh_KS rfl (by decide) rfl in_KS mn_32 rfl ?_
      exact g_iret C hQ rfl d_BE_told_115 ⟨rfl, hw⟩
    · have hw := hw.2.2.2.2.2.2.2.2 hs_1
      refine g_tableIn (tgt := 116) (off := 115) C d_BE_told_1 (by rw [hs_1]; decide) (by rw [hs_1]; decide) (by rw [hs_1]; rfl) (by decide) ?_
      refine g_aload_n C 0 0 d_BE_told_116 rfl rfl ?_
      refine g_getr C 0 4 rfl d_BE_told_117 em_nc_BE em_sh_BE rfl (by decide) rfl in_BE mw_187 rfl ?_
      refine g_getiN C 51 4 rfl d_BE_told_120 em_nc_KS em_sh_KS rfl (by decide) rfl in_KS mn_33 rfl ?_
      exact g_iret C hQ rfl d_BE_told_123 ⟨rfl, hw⟩
theorem c_BE_told {l : Launch} {D : va_G} {b0 : Nat} {cT : Nat → ClassId} {ad : Nat → Nat} {post : Int32 → Prop} {x1 : Int32} {M : em_M}  (hw : wp_BE_told post x1 M) : Met l y_BE_told (.code y_BE_told b_BE_told 2 (some .int) :: wAll) rm_BE_told (va_Pc [.ref (ad (0)), .int x1] (em_U D b0 cT ad (SH ad) NC M)) (va_Qi (fun r M1 => M = M1 ∧ post r) (em_U D b0 cT ad (SH ad) NC) (em_A b0)) 0 0 (em_A b0) :=
  em_met (by decide) rfl (Nat.le_of_ble_eq_true rfl) (fun X C _ _ hQ => v_BE_told  C hQ hw)
set_option maxHeartbeats 4000000 in
set_option maxRecDepth 100000 in
theorem v_BE_count {X : em_X} {D : va_G} {b0 : Nat} {cT : Nat → ClassId} {ad : Nat → Nat} {post : Int32 → Prop} {x1 : Int32} {M : em_M}  (C : em_Cx X D b0 cT R_BE b_BE_count (some .int) 2 rm_BE_count) (hQ : xQ X = MQ (xB X) (va_Qi (fun r M1 => M = M1 ∧ post r) (em_U D b0 cT ad (SH ad) NC) (em_A b0)) (xA X) (xS X) 0 0 (em_A b0)) (hw : wp_BE_count post x1 M) : em_G X D b0 cT ad 2 (SH ad) NC 0 0 M 0 [(0, .ref (ad (0))), (1, .int x1)] [] := by
  unfold wp_BE_count at hw
  refine g_iload_n C 1 1 d_BE_count_0 rfl rfl ?_
  refine g_callSi C [.int x1] [] (c_BE_isList  hw) (em_cwS C 1 mw_201 mw_202 mw_64 mw_203 rfl rfl (by decide +kernel) (by decide)) rfl rfl (Nat.le_of_ble_eq_true rfl) d_BE_count_1 (by decide) (fun r_2 M_1 hw => ?_)
  obtain ⟨rfl, hw⟩ := hw
  refine g_if_eq (tgt := 20) C d_BE_count_4 (by decide) (fun hc_3 => ?_) (fun hc_3 => ?_)
  · have hw := hw.1 hc_3
    refine g_iload_n C 1 1 d_BE_count_20 rfl rfl ?_
    obtain ⟨hwd, hw⟩ := hw
    rcases em_ix x1 (lo := 12) (hi := 18) (by decide) with hs_4 | hs_4 | ⟨jhs_4, hlhs_4, hjhs_4, hs_4⟩
    · have hw := hwd (Or.inl hs_4)
      refine g_tableOut (tgt := 120) C d_BE_count_21 (Or.inl (em_sw0 (by decide) hs_4)) (by decide) ?_
      refine g_iconst (v := (-1 : Int32)) C d_BE_count_120 (by decide) ?_
      exact g_iret C hQ rfl d_BE_count_121 ⟨rfl, hw⟩
    · have hw := hwd (Or.inr hs_4)
      refine g_tableOut (tgt := 120) C d_BE_count_21 (Or.inr (em_sw1 (by decide) hs_4)) (by decide) ?_
      refine g_iconst (v := (-1 : Int32)) C d_BE_count_120 (by decide) ?_
      exact g_iret C hQ rfl d_BE_count_121 ⟨rfl, hw⟩
    · have hw := hw
      rcases (show jhs_4 = 12 ∨ jhs_4 = 13 ∨ jhs_4 = 14 ∨ jhs_4 = 15 ∨ jhs_4 = 16 ∨ jhs_4 = 17 by omega) with rfl | rfl | rfl | rfl | rfl | rfl
      · have hw := hw.1 hs_4
        refine g_tableIn (tgt := 60) (off := 39) C d_BE_count_21 (by rw [hs_4]; decide) (by rw [hs_4]; decide) (by rw [hs_4]; rfl) (by decide) ?_
        refine g_aload_n C 0 0 d_BE_count_60 rfl rfl ?_
        refine g_getr C 0 1 rfl d_BE_count_61 em_nc_BE em_sh_BE rfl (by decide) rfl in_BE mw_184 rfl ?_
        refine g_iconst (v := (nI 1)) C d_BE_count_64 (by decide) ?_
        refine g_callVNi C 40 rfl [.int (nI 1)] [] (c_QU_listsOfSort  hw) (em_cnB C 1 mn_70 mw_67 mw_390 rfl rfl (by decide +kernel) (by decide)) mw_389 mw_40 em_nc_QU em_sh_QU rfl rfl rfl (Nat.le_of_ble_eq_true rfl) d_BE_count_65 (by decide) (fun r_6 M_5 hw => ?_)
        obtain ⟨rfl, hw⟩ := hw
        refine g_aload_n C 0 0 d_BE_count_68 rfl rfl ?_
        refine g_getr C 0 1 rfl d_BE_count_69 em_nc_BE em_sh_BE rfl (by decide) rfl in_BE mw_184 rfl ?_
        refine g_iconst (v := (nI 2)) C d_BE_count_72 (by decide) ?_
        refine g_callVNi C 40 rfl [.int (nI 2)] [.int r_6] (c_QU_listsOfSort  hw) (em_cnB C 1 mn_70 mw_67 mw_390 rfl rfl (by decide +kernel) (by decide)) mw_389 mw_40 em_nc_QU em_sh_QU rfl rfl rfl (Nat.le_of_ble_eq_true rfl) d_BE_count_73 (by decide) (fun r_8 M_7 hw => ?_)
        obtain ⟨rfl, hw⟩ := hw
        refine g_iadd C d_BE_count_76 ?_
        exact g_iret C hQ rfl d_BE_count_77 ⟨rfl, hw⟩
      · have hw := hw.2.1 hs_4
        refine g_tableIn (tgt := 78) (off := 57) C d_BE_count_21 (by rw [hs_4]; decide) (by rw [hs_4]; decide) (by rw [hs_4]; rfl) (by decide) ?_
        refine g_aload_n C 0 0 d_BE_count_78 rfl rfl ?_
        refine g_getr C 0 1 rfl d_BE_count_79 em_nc_BE em_sh_BE rfl (by decide) rfl in_BE mw_184 rfl ?_
        refine g_iconst (v := (nI 2)) C d_BE_count_82 (by decide) ?_
        refine g_callVNi C 40 rfl [.int (nI 2)] [] (c_QU_listsOfSort  hw) (em_cnB C 1 mn_70 mw_67 mw_390 rfl rfl (by decide +kernel) (by decide)) mw_389 mw_40 em_nc_QU em_sh_QU rfl rfl rfl (Nat.le_of_ble_eq_true rfl) d_BE_count_83 (by decide) (fun r_10 M_9 hw => ?_)
        obtain ⟨rfl, hw⟩ := hw
        exact g_iret C hQ rfl d_BE_count_86 ⟨rfl, hw⟩
      · have hw := hw.2.2.1 hs_4
        refine g_tableIn (tgt := 87) (off := 66) C d_BE_count_21 (by rw [hs_4]; decide) (by rw [hs_4]; decide) (by rw [hs_4]; rfl) (by decide) ?_
        refine g_aload_n C 0 0 d_BE_count_87 rfl rfl ?_
        refine g_getr C 0 1 rfl d_BE_count_88 em_nc_BE em_sh_BE rfl (by decide) rfl in_BE mw_184 rfl ?_
        refine g_iconst (v := (nI 3)) C d_BE_count_91 (by decide) ?_
        refine g_callVNi C 40 rfl [.int (nI 3)] [] (c_QU_listsOfSort  hw) (em_cnB C 1 mn_70 mw_67 mw_390 rfl rfl (by decide +kernel) (by decide)) mw_389 mw_40 em_nc_QU em_sh_QU rfl rfl rfl (Nat.le_of_ble_eq_true rfl) d_BE_count_92 (by decide) (fun r_12 M_11 hw => ?_)
        obtain ⟨rfl, hw⟩ := hw
        exact g_iret C hQ rfl d_BE_count_95 ⟨rfl, hw⟩
      · have hw := hw.2.2.2.1 hs_4
        refine g_tableIn (tgt := 96) (off := 75) C d_BE_count_21 (by rw [hs_4]; decide) (by rw [hs_4]; decide) (by rw [hs_4]; rfl) (by decide) ?_
        refine g_aload_n C 0 0 d_BE_count_96 rfl rfl ?_
        refine g_getr C 0 1 rfl d_BE_count_97 em_nc_BE em_sh_BE rfl (by decide) rfl in_BE mw_184 rfl ?_
        refine g_getiN C 40 3 rfl d_BE_count_100 em_nc_QU em_sh_QU rfl (by decide) rfl in_QU mn_16 rfl ?_
        exact g_iret C hQ rfl d_BE_count_103 ⟨rfl, hw⟩
      · have hw := hw.2.2.2.2.1 hs_4
        refine g_tableIn (tgt := 104) (off := 83) C d_BE_count_21 (by rw [hs_4]; decide) (by rw [hs_4]; decide) (by rw [hs_4]; rfl) (by decide) ?_
        refine g_aload_n C 0 0 d_BE_count_104 rfl rfl ?_
        refine g_getr C 0 2 rfl d_BE_count_105 em_nc_BE em_sh_BE rfl (by decide) rfl in_BE mw_185 rfl ?_
        refine g_getiN C 43 4 rfl d_BE_count_108 em_nc_RK em_sh_RK rfl (by decide) rfl in_RK mn_24 rfl ?_
        exact g_iret C hQ rfl d_BE_count_111 ⟨rfl, hw⟩
      · have hw := hw.2.2.2.2.2 hs_4
        refine g_tableIn (tgt := 112) (off := 91) C d_BE_count_21 (by rw [hs_4]; decide) (by rw [hs_4]; decide) (by rw [hs_4]; rfl) (by decide) ?_
        refine g_aload_n C 0 0 d_BE_count_112 rfl rfl ?_
        refine g_getr C 0 0 rfl d_BE_count_113 em_nc_BE em_sh_BE rfl (by decide) rfl in_BE mw_183 rfl ?_
        refine g_callVNi C 1 rfl [] [] (c_SF_objectsInSomeList  hw) (em_cnB C 0 mn_71 mw_65 mw_392 rfl rfl (by decide +kernel) (by decide)) mw_391 mw_41 em_nc_SF em_sh_SF rfl rfl rfl (Nat.le_of_ble_eq_true rfl) d_BE_count_116 (by decide) (fun r_14 M_13 hw => ?_)
        obtain ⟨rfl, hw⟩ := hw
        exact g_iret C hQ rfl d_BE_count_119 ⟨rfl, hw⟩
  · have hw := hw.2 hc_3
    refine g_aload_n C 0 0 d_BE_count_7 rfl rfl ?_
    refine g_getr C 0 0 rfl d_BE_count_8 em_nc_BE em_sh_BE rfl (by decide) rfl in_BE mw_183 rfl ?_
    refine g_getrN C 1 0 rfl d_BE_count_11 em_nc_SF em_sh_SF rfl (by decide) rfl in_SF mn_4 rfl ?_
    refine g_iload_n C 1 1 d_BE_count_14 rfl rfl ?_
    obtain ⟨hb_15, hw⟩ := hw
    refine g_aald C 2 rfl d_BE_count_15 em_nc_lists em_sh_lists rfl hb_15 rfl ?_
    refine g_getiN C (4 + 3 * x1.toNatClampNeg) 2 rfl d_BE_count_16 (em_nc_SL (em_pos hb_15)) (em_sh_SL (em_pos hb_15)) rfl (by decide) rfl in_SL mn_2 rfl ?_
    exact g_iret C hQ rfl d_BE_count_19 ⟨rfl, hw⟩
theorem c_BE_count {l : Launch} {D : va_G} {b0 : Nat} {cT : Nat → ClassId} {ad : Nat → Nat} {post : Int32 → Prop} {x1 : Int32} {M : em_M}  (hw : wp_BE_count post x1 M) : Met l y_BE_count (.code y_BE_count b_BE_count 2 (some .int) :: wAll) rm_BE_count (va_Pc [.ref (ad (0)), .int x1] (em_U D b0 cT ad (SH ad) NC M)) (va_Qi (fun r M1 => M = M1 ∧ post r) (em_U D b0 cT ad (SH ad) NC) (em_A b0)) 0 0 (em_A b0) :=
  em_met (by decide) rfl (Nat.le_of_ble_eq_true rfl) (fun X C _ _ hQ => v_BE_count  C hQ hw)
