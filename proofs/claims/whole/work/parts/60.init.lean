/-! CONSTRUCTORS: written by wip/gen/cg.py -/
theorem em_up_ne {M : em_M} {k i j : Nat} {x : Int32} (h : j ≠ k) : em_up M k i x j = M j := va_up_ne _ _ h
abbrev rm_SL_init : Room := { frames := 1, cells := 2, slots := 632, locals := 20 }
def ad_SL_init (k n : Nat) (ad u : Nat → Nat) : Nat → Nat := va_up (va_up ad n (u n)) (n + 1) (u (n + 1))
def sh_SL_init (k n : Nat) (sh : Nat → em_Sh) (u : Nat → Nat) : Nat → em_Sh := va_up (va_up (va_up (va_up sh n (.inl (0, 120))) k (.inr (.inl (4, [some (some (u n)), some none, none])))) (n + 1) (.inl (0, 512))) k (.inr (.inl (4, [some (some (u n)), some (some (u (n + 1))), none])))
set_option maxHeartbeats 4000000 in
set_option maxRecDepth 100000 in
theorem c_SL_init {l : Launch} {D : va_G} {b0 : Nat} {cT : Nat → ClassId} {ad : Nat → Nat} {sh : Nat → em_Sh} {M : em_M} (k n : Nat) (hkn : k < n) (hs : sh k = .inr (.inl (4, [some none, some none, none]))) (hM0 : M n = fun _ => 0) (hM1 : M (n + 1) = fun _ => 0) : Met l y_SL_init (.code y_SL_init b_SL_init 1 none :: wAll) rm_SL_init (va_Pc [.ref (ad k)] (em_U D b0 cT ad sh n M)) (va_Qv (fun _ : Nat → Nat => True) (fun u t => em_U D b0 cT (ad_SL_init k n ad u) (sh_SL_init k n sh u) (n + 2) M t) (em_A b0)) 2 632 (em_A b0) := by
  refine em_met (by decide) rfl (Nat.le_of_ble_eq_true rfl) (fun X C _ hnm hQ => ?_)
  refine g_aload_n C 0 0 d_SL_init_0 rfl rfl ?_
  refine g_objInit C d_SL_init_1 mw_91 mw_80 mw_81 (by decide) (Nat.le_of_ble_eq_true rfl) ?_
  refine g_aload_n C 0 0 d_SL_init_4 rfl rfl ?_
  refine g_bipush (v := 120) C d_SL_init_5 (by decide) ?_
  refine g_newa C 0 120 d_SL_init_7 mw_98 rfl hM0 (by decide) (by decide) (by decide) (by decide) (by decide) (fun q1 => ?_)
  refine g_putF C k 0 (va_up_ne _ _ (by omega)) ty_SL tyok_SL nm_SL d_SL_init_9 (by omega) ((va_up_ne _ _ (by omega)).trans hs) rfl (by decide) (Nat.le_of_ble_eq_true rfl) in_SL mw_92 rfl rfl hnm rfl rfl rfl rfl ?_
  refine g_aload_n C 0 0 d_SL_init_12 rfl rfl ?_
  refine g_sipush (v := 512) C d_SL_init_13 (by decide) ?_
  refine g_newa C 0 512 d_SL_init_16 mw_98 rfl hM1 (by decide) (by decide) (by decide) (by decide) (by decide) (fun q2 => ?_)
  refine g_putF C k 1 ((va_up_ne _ _ (by omega)).trans (va_up_ne _ _ (by omega))) ty_SL tyok_SL nm_SL d_SL_init_18 (by omega) ((va_up_ne _ _ (by omega)).trans (va_up_self _ _ _)) rfl (by decide) (Nat.le_of_ble_eq_true rfl) in_SL mw_93 rfl rfl hnm rfl rfl rfl rfl ?_
  refine g_vretC C (fun j => if j = n then q1 else q2) hQ rfl d_SL_init_21 trivial (fun j _ => ⟨?_, ?_, rfl⟩)
  · simp [ad_SL_init]
  · simp [sh_SL_init]

def ad_SF_init (ad u : Nat → Nat) : Nat → Nat := (ad_SL_init 37 38 (va_up (ad_SL_init 34 35 (va_up (ad_SL_init 31 32 (va_up (ad_SL_init 28 29 (va_up (ad_SL_init 25 26 (va_up (ad_SL_init 22 23 (va_up (ad_SL_init 19 20 (va_up (ad_SL_init 16 17 (va_up (ad_SL_init 13 14 (va_up (ad_SL_init 10 11 (va_up (ad_SL_init 7 8 (va_up (ad_SL_init 4 5 (va_up (va_up (va_up ad 2 (u 2)) 3 (u 3)) 4 (u 4)) u) 7 (u 7)) u) 10 (u 10)) u) 13 (u 13)) u) 16 (u 16)) u) 19 (u 19)) u) 22 (u 22)) u) 25 (u 25)) u) 28 (u 28)) u) 31 (u 31)) u) 34 (u 34)) u) 37 (u 37)) u)
def sh_SF_init (ad : Nat → Nat) (sh : Nat → em_Sh) (u : Nat → Nat) : Nat → em_Sh := (va_up (sh_SL_init 37 38 (va_up (va_up (sh_SL_init 34 35 (va_up (va_up (sh_SL_init 31 32 (va_up (va_up (sh_SL_init 28 29 (va_up (va_up (sh_SL_init 25 26 (va_up (va_up (sh_SL_init 22 23 (va_up (va_up (sh_SL_init 19 20 (va_up (va_up (sh_SL_init 16 17 (va_up (va_up (sh_SL_init 13 14 (va_up (va_up (sh_SL_init 10 11 (va_up (va_up (sh_SL_init 7 8 (va_up (va_up (sh_SL_init 4 5 (va_up (va_up (va_up (va_up (va_up sh 2 (.inr (.inr (1, 12, fun _ => none)))) 1 (.inr (.inl (5, (([some none, some none] : List (Option (Option Nat))).set 0 (some (some (u 2)))))))) 3 (.inl (0, 512))) 1 (.inr (.inl (5, (((([some none, some none] : List (Option (Option Nat))).set 0 (some (some (u 2)))) : List (Option (Option Nat))).set 1 (some (some (u 3)))))))) 4 (.inr (.inl (4, [some none, some none, none])))) u) 2 (.inr (.inr (1, 12, (va_up (fun _ => none) (0 : Int32).toNatClampNeg (some (u 4))))))) 7 (.inr (.inl (4, [some none, some none, none])))) u) 2 (.inr (.inr (1, 12, (va_up (va_up (fun _ => none) (0 : Int32).toNatClampNeg (some (u 4))) (1 : Int32).toNatClampNeg (some (u 7))))))) 10 (.inr (.inl (4, [some none, some none, none])))) u) 2 (.inr (.inr (1, 12, (va_up (va_up (va_up (fun _ => none) (0 : Int32).toNatClampNeg (some (u 4))) (1 : Int32).toNatClampNeg (some (u 7))) (2 : Int32).toNatClampNeg (some (u 10))))))) 13 (.inr (.inl (4, [some none, some none, none])))) u) 2 (.inr (.inr (1, 12, (va_up (va_up (va_up (va_up (fun _ => none) (0 : Int32).toNatClampNeg (some (u 4))) (1 : Int32).toNatClampNeg (some (u 7))) (2 : Int32).toNatClampNeg (some (u 10))) (3 : Int32).toNatClampNeg (some (u 13))))))) 16 (.inr (.inl (4, [some none, some none, none])))) u) 2 (.inr (.inr (1, 12, (va_up (va_up (va_up (va_up (va_up (fun _ => none) (0 : Int32).toNatClampNeg (some (u 4))) (1 : Int32).toNatClampNeg (some (u 7))) (2 : Int32).toNatClampNeg (some (u 10))) (3 : Int32).toNatClampNeg (some (u 13))) (4 : Int32).toNatClampNeg (some (u 16))))))) 19 (.inr (.inl (4, [some none, some none, none])))) u) 2 (.inr (.inr (1, 12, (va_up (va_up (va_up (va_up (va_up (va_up (fun _ => none) (0 : Int32).toNatClampNeg (some (u 4))) (1 : Int32).toNatClampNeg (some (u 7))) (2 : Int32).toNatClampNeg (some (u 10))) (3 : Int32).toNatClampNeg (some (u 13))) (4 : Int32).toNatClampNeg (some (u 16))) (5 : Int32).toNatClampNeg (some (u 19))))))) 22 (.inr (.inl (4, [some none, some none, none])))) u) 2 (.inr (.inr (1, 12, (va_up (va_up (va_up (va_up (va_up (va_up (va_up (fun _ => none) (0 : Int32).toNatClampNeg (some (u 4))) (1 : Int32).toNatClampNeg (some (u 7))) (2 : Int32).toNatClampNeg (some (u 10))) (3 : Int32).toNatClampNeg (some (u 13))) (4 : Int32).toNatClampNeg (some (u 16))) (5 : Int32).toNatClampNeg (some (u 19))) (6 : Int32).toNatClampNeg (some (u 22))))))) 25 (.inr (.inl (4, [some none, some none, none])))) u) 2 (.inr (.inr (1, 12, (va_up (va_up (va_up (va_up (va_up (va_up (va_up (va_up (fun _ => none) (0 : Int32).toNatClampNeg (some (u 4))) (1 : Int32).toNatClampNeg (some (u 7))) (2 : Int32).toNatClampNeg (some (u 10))) (3 : Int32).toNatClampNeg (some (u 13))) (4 : Int32).toNatClampNeg (some (u 16))) (5 : Int32).toNatClampNeg (some (u 19))) (6 : Int32).toNatClampNeg (some (u 22))) (7 : Int32).toNatClampNeg (some (u 25))))))) 28 (.inr (.inl (4, [some none, some none, none])))) u) 2 (.inr (.inr (1, 12, (va_up (va_up (va_up (va_up (va_up (va_up (va_up (va_up (va_up (fun _ => none) (0 : Int32).toNatClampNeg (some (u 4))) (1 : Int32).toNatClampNeg (some (u 7))) (2 : Int32).toNatClampNeg (some (u 10))) (3 : Int32).toNatClampNeg (some (u 13))) (4 : Int32).toNatClampNeg (some (u 16))) (5 : Int32).toNatClampNeg (some (u 19))) (6 : Int32).toNatClampNeg (some (u 22))) (7 : Int32).toNatClampNeg (some (u 25))) (8 : Int32).toNatClampNeg (some (u 28))))))) 31 (.inr (.inl (4, [some none, some none, none])))) u) 2 (.inr (.inr (1, 12, (va_up (va_up (va_up (va_up (va_up (va_up (va_up (va_up (va_up (va_up (fun _ => none) (0 : Int32).toNatClampNeg (some (u 4))) (1 : Int32).toNatClampNeg (some (u 7))) (2 : Int32).toNatClampNeg (some (u 10))) (3 : Int32).toNatClampNeg (some (u 13))) (4 : Int32).toNatClampNeg (some (u 16))) (5 : Int32).toNatClampNeg (some (u 19))) (6 : Int32).toNatClampNeg (some (u 22))) (7 : Int32).toNatClampNeg (some (u 25))) (8 : Int32).toNatClampNeg (some (u 28))) (9 : Int32).toNatClampNeg (some (u 31))))))) 34 (.inr (.inl (4, [some none, some none, none])))) u) 2 (.inr (.inr (1, 12, (va_up (va_up (va_up (va_up (va_up (va_up (va_up (va_up (va_up (va_up (va_up (fun _ => none) (0 : Int32).toNatClampNeg (some (u 4))) (1 : Int32).toNatClampNeg (some (u 7))) (2 : Int32).toNatClampNeg (some (u 10))) (3 : Int32).toNatClampNeg (some (u 13))) (4 : Int32).toNatClampNeg (some (u 16))) (5 : Int32).toNatClampNeg (some (u 19))) (6 : Int32).toNatClampNeg (some (u 22))) (7 : Int32).toNatClampNeg (some (u 25))) (8 : Int32).toNatClampNeg (some (u 28))) (9 : Int32).toNatClampNeg (some (u 31))) (10 : Int32).toNatClampNeg (some (u 34))))))) 37 (.inr (.inl (4, [some none, some none, none])))) u) 2 (.inr (.inr (1, 12, (va_up (va_up (va_up (va_up (va_up (va_up (va_up (va_up (va_up (va_up (va_up (va_up (fun _ => none) (0 : Int32).toNatClampNeg (some (u 4))) (1 : Int32).toNatClampNeg (some (u 7))) (2 : Int32).toNatClampNeg (some (u 10))) (3 : Int32).toNatClampNeg (some (u 13))) (4 : Int32).toNatClampNeg (some (u 16))) (5 : Int32).toNatClampNeg (some (u 19))) (6 : Int32).toNatClampNeg (some (u 22))) (7 : Int32).toNatClampNeg (some (u 25))) (8 : Int32).toNatClampNeg (some (u 28))) (9 : Int32).toNatClampNeg (some (u 31))) (10 : Int32).toNatClampNeg (some (u 34))) (11 : Int32).toNatClampNeg (some (u 37)))))))
def M_SF_init (M : em_M) : em_M := M
abbrev rm_SF_init : Room := { frames := 2, cells := 38, slots := 8144, locals := 40 }
set_option maxHeartbeats 8000000 in
set_option maxRecDepth 100000 in
theorem c_SF_init {l : Launch} {D : va_G} {b0 : Nat} {cT : Nat → ClassId} {ad : Nat → Nat} {sh : Nat → em_Sh} {M : em_M} (hs : sh 1 = .inr (.inl (5, [some none, some none]))) (hM : ∀ j, 2 ≤ j → M j = fun _ => 0) : Met l y_SF_init (.code y_SF_init b_SF_init 2 none :: wAll) rm_SF_init (va_Pc [.ref (ad 1)] (em_U D b0 cT ad sh 2 M)) (va_Qv (fun _ : Nat → Nat => True) (fun u t => em_U D b0 cT (ad_SF_init ad u) (sh_SF_init ad sh u) 40 (M_SF_init M) t) (em_A b0)) 38 8144 (em_A b0) := by
  refine em_met (by decide) rfl (Nat.le_of_ble_eq_true rfl) (fun X C _ hnm hQ => ?_)
  refine g_aload_n C 0 0 d_SF_init_0 rfl rfl ?_
  refine g_objInit C d_SF_init_1 mw_86 mw_80 mw_81 (by decide) (Nat.le_of_ble_eq_true rfl) ?_
  refine g_aload_n C 0 0 d_SF_init_4 rfl rfl ?_
  refine g_bipush (v := 12) C d_SF_init_5 (by decide) ?_
  refine g_anewa C 1 12 d_SF_init_7 mw_87 rfl (by decide) (by decide) (by decide) (by decide) (by decide) (fun q2 => ?_)
  refine g_putF C 1 0 rfl ty_SF tyok_SF nm_SF d_SF_init_10 (by decide) hs rfl (by decide) (Nat.le_of_ble_eq_true rfl) in_SF mw_99 rfl rfl hnm rfl rfl rfl rfl ?_
  refine g_aload_n C 0 0 d_SF_init_13 rfl rfl ?_
  refine g_sipush (v := 512) C d_SF_init_14 (by decide) ?_
  refine g_newa C 0 512 d_SF_init_17 mw_98 rfl (hM 3 (by decide)) (by decide) (by decide) (by decide) (by decide) (by decide) (fun q3 => ?_)
  refine g_putF C 1 1 rfl ty_SF tyok_SF nm_SF d_SF_init_19 (by decide) rfl rfl (by decide) (Nat.le_of_ble_eq_true rfl) in_SF mw_100 rfl rfl hnm rfl rfl rfl rfl ?_
  refine g_iconst (v := 0) C d_SF_init_22 (by decide) ?_
  refine g_istore_n (lv' := [(1, .int (0 : Int32)), (0, .ref (ad 1))]) C 1 d_SF_init_23 rfl (by decide) rfl ?_
  refine g_iload_n C 0 1 d_SF_init_24 rfl rfl ?_
  refine g_bipush (v := 12) C d_SF_init_25 (by decide) ?_
  refine g_icmp_ge (tgt := 49) C d_SF_init_27 (by decide) (fun h => absurd h (by decide)) (fun _ => ?_)
  refine g_aload_n C 1 0 d_SF_init_30 rfl rfl ?_
  refine g_getr C 1 0 rfl d_SF_init_31 (by decide) rfl rfl (by decide) rfl in_SF mw_99 rfl ?_
  refine g_iload_n C 0 1 d_SF_init_34 rfl rfl ?_
  refine g_new (ci := 4) C [some none, some none, none] ty_SL tyok_SL d_SF_init_35 in_SL mw_87 mw_88 mw_66 rfl (hM 4 (by decide)) (fun j hj => by rcases (show j = 0 ∨ j = 1 ∨ j = 2 by omega) with rfl | rfl | rfl <;> rfl) (by decide) (by decide) (fun q4 => ?_)
  refine g_dup C d_SF_init_38 rfl ?_
  refine g_callIN C [] [.ref q4, .int (0 : Int32), .ref q2] (c_SL_init 4 5 (by decide) rfl (hM 5 (by decide)) (hM 6 (by decide))) (em_cnB C 0 mn_35 mw_66 mw_90 rfl rfl (by decide +kernel) (by decide)) rfl mw_89 rfl rfl (Nat.le_of_ble_eq_true rfl) d_SF_init_39 (by decide) (fun u4 _ => ?_)
  refine g_aast C 2 4 rfl rfl d_SF_init_42 (by decide) rfl (by decide) rfl rfl rfl (pk_in 0 12 (by decide)) ?_
  refine g_iinc (v := 1) (lv' := [(1, .int (1 : Int32)), (0, .ref (ad 1))]) C 0 d_SF_init_43 rfl (by decide) (by decide) rfl ?_
  refine g_goto (tgt := 24) C d_SF_init_46 (by decide) ?_
  refine g_iload_n C 0 1 d_SF_init_24 rfl rfl ?_
  refine g_bipush (v := 12) C d_SF_init_25 (by decide) ?_
  refine g_icmp_ge (tgt := 49) C d_SF_init_27 (by decide) (fun h => absurd h (by decide)) (fun _ => ?_)
  refine g_aload_n C 1 0 d_SF_init_30 rfl rfl ?_
  refine g_getr C 1 0 rfl d_SF_init_31 (by decide) rfl rfl (by decide) rfl in_SF mw_99 rfl ?_
  refine g_iload_n C 0 1 d_SF_init_34 rfl rfl ?_
  refine g_new (ci := 4) C [some none, some none, none] ty_SL tyok_SL d_SF_init_35 in_SL mw_87 mw_88 mw_66 rfl (hM 7 (by decide)) (fun j hj => by rcases (show j = 0 ∨ j = 1 ∨ j = 2 by omega) with rfl | rfl | rfl <;> rfl) (by decide) (by decide) (fun q7 => ?_)
  refine g_dup C d_SF_init_38 rfl ?_
  refine g_callIN C [] [.ref q7, .int (1 : Int32), .ref q2] (c_SL_init 7 8 (by decide) rfl (hM 8 (by decide)) (hM 9 (by decide))) (em_cnB C 0 mn_35 mw_66 mw_90 rfl rfl (by decide +kernel) (by decide)) rfl mw_89 rfl rfl (Nat.le_of_ble_eq_true rfl) d_SF_init_39 (by decide) (fun u7 _ => ?_)
  refine g_aast C 2 7 rfl rfl d_SF_init_42 (by decide) rfl (by decide) rfl rfl rfl (pk_in 1 12 (by decide)) ?_
  refine g_iinc (v := 2) (lv' := [(1, .int (2 : Int32)), (0, .ref (ad 1))]) C 0 d_SF_init_43 rfl (by decide) (by decide) rfl ?_
  refine g_goto (tgt := 24) C d_SF_init_46 (by decide) ?_
  refine g_iload_n C 0 1 d_SF_init_24 rfl rfl ?_
  refine g_bipush (v := 12) C d_SF_init_25 (by decide) ?_
  refine g_icmp_ge (tgt := 49) C d_SF_init_27 (by decide) (fun h => absurd h (by decide)) (fun _ => ?_)
  refine g_aload_n C 1 0 d_SF_init_30 rfl rfl ?_
  refine g_getr C 1 0 rfl d_SF_init_31 (by decide) rfl rfl (by decide) rfl in_SF mw_99 rfl ?_
  refine g_iload_n C 0 1 d_SF_init_34 rfl rfl ?_
  refine g_new (ci := 4) C [some none, some none, none] ty_SL tyok_SL d_SF_init_35 in_SL mw_87 mw_88 mw_66 rfl (hM 10 (by decide)) (fun j hj => by rcases (show j = 0 ∨ j = 1 ∨ j = 2 by omega) with rfl | rfl | rfl <;> rfl) (by decide) (by decide) (fun q10 => ?_)
  refine g_dup C d_SF_init_38 rfl ?_
  refine g_callIN C [] [.ref q10, .int (2 : Int32), .ref q2] (c_SL_init 10 11 (by decide) rfl (hM 11 (by decide)) (hM 12 (by decide))) (em_cnB C 0 mn_35 mw_66 mw_90 rfl rfl (by decide +kernel) (by decide)) rfl mw_89 rfl rfl (Nat.le_of_ble_eq_true rfl) d_SF_init_39 (by decide) (fun u10 _ => ?_)
  refine g_aast C 2 10 rfl rfl d_SF_init_42 (by decide) rfl (by decide) rfl rfl rfl (pk_in 2 12 (by decide)) ?_
  refine g_iinc (v := 3) (lv' := [(1, .int (3 : Int32)), (0, .ref (ad 1))]) C 0 d_SF_init_43 rfl (by decide) (by decide) rfl ?_
  refine g_goto (tgt := 24) C d_SF_init_46 (by decide) ?_
  refine g_iload_n C 0 1 d_SF_init_24 rfl rfl ?_
  refine g_bipush (v := 12) C d_SF_init_25 (by decide) ?_
  refine g_icmp_ge (tgt := 49) C d_SF_init_27 (by decide) (fun h => absurd h (by decide)) (fun _ => ?_)
  refine g_aload_n C 1 0 d_SF_init_30 rfl rfl ?_
  refine g_getr C 1 0 rfl d_SF_init_31 (by decide) rfl rfl (by decide) rfl in_SF mw_99 rfl ?_
  refine g_iload_n C 0 1 d_SF_init_34 rfl rfl ?_
  refine g_new (ci := 4) C [some none, some none, none] ty_SL tyok_SL d_SF_init_35 in_SL mw_87 mw_88 mw_66 rfl (hM 13 (by decide)) (fun j hj => by rcases (show j = 0 ∨ j = 1 ∨ j = 2 by omega) with rfl | rfl | rfl <;> rfl) (by decide) (by decide) (fun q13 => ?_)
  refine g_dup C d_SF_init_38 rfl ?_
  refine g_callIN C [] [.ref q13, .int (3 : Int32), .ref q2] (c_SL_init 13 14 (by decide) rfl (hM 14 (by decide)) (hM 15 (by decide))) (em_cnB C 0 mn_35 mw_66 mw_90 rfl rfl (by decide +kernel) (by decide)) rfl mw_89 rfl rfl (Nat.le_of_ble_eq_true rfl) d_SF_init_39 (by decide) (fun u13 _ => ?_)
  refine g_aast C 2 13 rfl rfl d_SF_init_42 (by decide) rfl (by decide) rfl rfl rfl (pk_in 3 12 (by decide)) ?_
  refine g_iinc (v := 4) (lv' := [(1, .int (4 : Int32)), (0, .ref (ad 1))]) C 0 d_SF_init_43 rfl (by decide) (by decide) rfl ?_
  refine g_goto (tgt := 24) C d_SF_init_46 (by decide) ?_
  refine g_iload_n C 0 1 d_SF_init_24 rfl rfl ?_
  refine g_bipush (v := 12) C d_SF_init_25 (by decide) ?_
  refine g_icmp_ge (tgt := 49) C d_SF_init_27 (by decide) (fun h => absurd h (by decide)) (fun _ => ?_)
  refine g_aload_n C 1 0 d_SF_init_30 rfl rfl ?_
  refine g_getr C 1 0 rfl d_SF_init_31 (by decide) rfl rfl (by decide) rfl in_SF mw_99 rfl ?_
  refine g_iload_n C 0 1 d_SF_init_34 rfl rfl ?_
  refine g_new (ci := 4) C [some none, some none, none] ty_SL tyok_SL d_SF_init_35 in_SL mw_87 mw_88 mw_66 rfl (hM 16 (by decide)) (fun j hj => by rcases (show j = 0 ∨ j = 1 ∨ j = 2 by omega) with rfl | rfl | rfl <;> rfl) (by decide) (by decide) (fun q16 => ?_)
  refine g_dup C d_SF_init_38 rfl ?_
  refine g_callIN C [] [.ref q16, .int (4 : Int32), .ref q2] (c_SL_init 16 17 (by decide) rfl (hM 17 (by decide)) (hM 18 (by decide))) (em_cnB C 0 mn_35 mw_66 mw_90 rfl rfl (by decide +kernel) (by decide)) rfl mw_89 rfl rfl (Nat.le_of_ble_eq_true rfl) d_SF_init_39 (by decide) (fun u16 _ => ?_)
  refine g_aast C 2 16 rfl rfl d_SF_init_42 (by decide) rfl (by decide) rfl rfl rfl (pk_in 4 12 (by decide)) ?_
  refine g_iinc (v := 5) (lv' := [(1, .int (5 : Int32)), (0, .ref (ad 1))]) C 0 d_SF_init_43 rfl (by decide) (by decide) rfl ?_
  refine g_goto (tgt := 24) C d_SF_init_46 (by decide) ?_
  refine g_iload_n C 0 1 d_SF_init_24 rfl rfl ?_
  refine g_bipush (v := 12) C d_SF_init_25 (by decide) ?_
  refine g_icmp_ge (tgt := 49) C d_SF_init_27 (by decide) (fun h => absurd h (by decide)) (fun _ => ?_)
  refine g_aload_n C 1 0 d_SF_init_30 rfl rfl ?_
  refine g_getr C 1 0 rfl d_SF_init_31 (by decide) rfl rfl (by decide) rfl in_SF mw_99 rfl ?_
  refine g_iload_n C 0 1 d_SF_init_34 rfl rfl ?_
  refine g_new (ci := 4) C [some none, some none, none] ty_SL tyok_SL d_SF_init_35 in_SL mw_87 mw_88 mw_66 rfl (hM 19 (by decide)) (fun j hj => by rcases (show j = 0 ∨ j = 1 ∨ j = 2 by omega) with rfl | rfl | rfl <;> rfl) (by decide) (by decide) (fun q19 => ?_)
  refine g_dup C d_SF_init_38 rfl ?_
  refine g_callIN C [] [.ref q19, .int (5 : Int32), .ref q2] (c_SL_init 19 20 (by decide) rfl (hM 20 (by decide)) (hM 21 (by decide))) (em_cnB C 0 mn_35 mw_66 mw_90 rfl rfl (by decide +kernel) (by decide)) rfl mw_89 rfl rfl (Nat.le_of_ble_eq_true rfl) d_SF_init_39 (by decide) (fun u19 _ => ?_)
  refine g_aast C 2 19 rfl rfl d_SF_init_42 (by decide) rfl (by decide) rfl rfl rfl (pk_in 5 12 (by decide)) ?_
  refine g_iinc (v := 6) (lv' := [(1, .int (6 : Int32)), (0, .ref (ad 1))]) C 0 d_SF_init_43 rfl (by decide) (by decide) rfl ?_
  refine g_goto (tgt := 24) C d_SF_init_46 (by decide) ?_
  refine g_iload_n C 0 1 d_SF_init_24 rfl rfl ?_
  refine g_bipush (v := 12) C d_SF_init_25 (by decide) ?_
  refine g_icmp_ge (tgt := 49) C d_SF_init_27 (by decide) (fun h => absurd h (by decide)) (fun _ => ?_)
  refine g_aload_n C 1 0 d_SF_init_30 rfl rfl ?_
  refine g_getr C 1 0 rfl d_SF_init_31 (by decide) rfl rfl (by decide) rfl in_SF mw_99 rfl ?_
  refine g_iload_n C 0 1 d_SF_init_34 rfl rfl ?_
  refine g_new (ci := 4) C [some none, some none, none] ty_SL tyok_SL d_SF_init_35 in_SL mw_87 mw_88 mw_66 rfl (hM 22 (by decide)) (fun j hj => by rcases (show j = 0 ∨ j = 1 ∨ j = 2 by omega) with rfl | rfl | rfl <;> rfl) (by decide) (by decide) (fun q22 => ?_)
  refine g_dup C d_SF_init_38 rfl ?_
  refine g_callIN C [] [.ref q22, .int (6 : Int32), .ref q2] (c_SL_init 22 23 (by decide) rfl (hM 23 (by decide)) (hM 24 (by decide))) (em_cnB C 0 mn_35 mw_66 mw_90 rfl rfl (by decide +kernel) (by decide)) rfl mw_89 rfl rfl (Nat.le_of_ble_eq_true rfl) d_SF_init_39 (by decide) (fun u22 _ => ?_)
  refine g_aast C 2 22 rfl rfl d_SF_init_42 (by decide) rfl (by decide) rfl rfl rfl (pk_in 6 12 (by decide)) ?_
  refine g_iinc (v := 7) (lv' := [(1, .int (7 : Int32)), (0, .ref (ad 1))]) C 0 d_SF_init_43 rfl (by decide) (by decide) rfl ?_
  refine g_goto (tgt := 24) C d_SF_init_46 (by decide) ?_
  refine g_iload_n C 0 1 d_SF_init_24 rfl rfl ?_
  refine g_bipush (v := 12) C d_SF_init_25 (by decide) ?_
  refine g_icmp_ge (tgt := 49) C d_SF_init_27 (by decide) (fun h => absurd h (by decide)) (fun _ => ?_)
  refine g_aload_n C 1 0 d_SF_init_30 rfl rfl ?_
  refine g_getr C 1 0 rfl d_SF_init_31 (by decide) rfl rfl (by decide) rfl in_SF mw_99 rfl ?_
  refine g_iload_n C 0 1 d_SF_init_34 rfl rfl ?_
  refine g_new (ci := 4) C [some none, some none, none] ty_SL tyok_SL d_SF_init_35 in_SL mw_87 mw_88 mw_66 rfl (hM 25 (by decide)) (fun j hj => by rcases (show j = 0 ∨ j = 1 ∨ j = 2 by omega) with rfl | rfl | rfl <;> rfl) (by decide) (by decide) (fun q25 => ?_)
  refine g_dup C d_SF_init_38 rfl ?_
  refine g_callIN C [] [.ref q25, .int (7 : Int32), .ref q2] (c_SL_init 25 26 (by decide) rfl (hM 26 (by decide)) (hM 27 (by decide))) (em_cnB C 0 mn_35 mw_66 mw_90 rfl rfl (by decide +kernel) (by decide)) rfl mw_89 rfl rfl (Nat.le_of_ble_eq_true rfl) d_SF_init_39 (by decide) (fun u25 _ => ?_)
  refine g_aast C 2 25 rfl rfl d_SF_init_42 (by decide) rfl (by decide) rfl rfl rfl (pk_in 7 12 (by decide)) ?_
  refine g_iinc (v := 8) (lv' := [(1, .int (8 : Int32)), (0, .ref (ad 1))]) C 0 d_SF_init_43 rfl (by decide) (by decide) rfl ?_
  refine g_goto (tgt := 24) C d_SF_init_46 (by decide) ?_
  refine g_iload_n C 0 1 d_SF_init_24 rfl rfl ?_
  refine g_bipush (v := 12) C d_SF_init_25 (by decide) ?_
  refine g_icmp_ge (tgt := 49) C d_SF_init_27 (by decide) (fun h => absurd h (by decide)) (fun _ => ?_)
  refine g_aload_n C 1 0 d_SF_init_30 rfl rfl ?_
  refine g_getr C 1 0 rfl d_SF_init_31 (by decide) rfl rfl (by decide) rfl in_SF mw_99 rfl ?_
  refine g_iload_n C 0 1 d_SF_init_34 rfl rfl ?_
  refine g_new (ci := 4) C [some none, some none, none] ty_SL tyok_SL d_SF_init_35 in_SL mw_87 mw_88 mw_66 rfl (hM 28 (by decide)) (fun j hj => by rcases (show j = 0 ∨ j = 1 ∨ j = 2 by omega) with rfl | rfl | rfl <;> rfl) (by decide) (by decide) (fun q28 => ?_)
  refine g_dup C d_SF_init_38 rfl ?_
  refine g_callIN C [] [.ref q28, .int (8 : Int32), .ref q2] (c_SL_init 28 29 (by decide) rfl (hM 29 (by decide)) (hM 30 (by decide))) (em_cnB C 0 mn_35 mw_66 mw_90 rfl rfl (by decide +kernel) (by decide)) rfl mw_89 rfl rfl (Nat.le_of_ble_eq_true rfl) d_SF_init_39 (by decide) (fun u28 _ => ?_)
  refine g_aast C 2 28 rfl rfl d_SF_init_42 (by decide) rfl (by decide) rfl rfl rfl (pk_in 8 12 (by decide)) ?_
  refine g_iinc (v := 9) (lv' := [(1, .int (9 : Int32)), (0, .ref (ad 1))]) C 0 d_SF_init_43 rfl (by decide) (by decide) rfl ?_
  refine g_goto (tgt := 24) C d_SF_init_46 (by decide) ?_
  refine g_iload_n C 0 1 d_SF_init_24 rfl rfl ?_
  refine g_bipush (v := 12) C d_SF_init_25 (by decide) ?_
  refine g_icmp_ge (tgt := 49) C d_SF_init_27 (by decide) (fun h => absurd h (by decide)) (fun _ => ?_)
  refine g_aload_n C 1 0 d_SF_init_30 rfl rfl ?_
  refine g_getr C 1 0 rfl d_SF_init_31 (by decide) rfl rfl (by decide) rfl in_SF mw_99 rfl ?_
  refine g_iload_n C 0 1 d_SF_init_34 rfl rfl ?_
  refine g_new (ci := 4) C [some none, some none, none] ty_SL tyok_SL d_SF_init_35 in_SL mw_87 mw_88 mw_66 rfl (hM 31 (by decide)) (fun j hj => by rcases (show j = 0 ∨ j = 1 ∨ j = 2 by omega) with rfl | rfl | rfl <;> rfl) (by decide) (by decide) (fun q31 => ?_)
  refine g_dup C d_SF_init_38 rfl ?_
  refine g_callIN C [] [.ref q31, .int (9 : Int32), .ref q2] (c_SL_init 31 32 (by decide) rfl (hM 32 (by decide)) (hM 33 (by decide))) (em_cnB C 0 mn_35 mw_66 mw_90 rfl rfl (by decide +kernel) (by decide)) rfl mw_89 rfl rfl (Nat.le_of_ble_eq_true rfl) d_SF_init_39 (by decide) (fun u31 _ => ?_)
  refine g_aast C 2 31 rfl rfl d_SF_init_42 (by decide) rfl (by decide) rfl rfl rfl (pk_in 9 12 (by decide)) ?_
  refine g_iinc (v := 10) (lv' := [(1, .int (10 : Int32)), (0, .ref (ad 1))]) C 0 d_SF_init_43 rfl (by decide) (by decide) rfl ?_
  refine g_goto (tgt := 24) C d_SF_init_46 (by decide) ?_
  refine g_iload_n C 0 1 d_SF_init_24 rfl rfl ?_
  refine g_bipush (v := 12) C d_SF_init_25 (by decide) ?_
  refine g_icmp_ge (tgt := 49) C d_SF_init_27 (by decide) (fun h => absurd h (by decide)) (fun _ => ?_)
  refine g_aload_n C 1 0 d_SF_init_30 rfl rfl ?_
  refine g_getr C 1 0 rfl d_SF_init_31 (by decide) rfl rfl (by decide) rfl in_SF mw_99 rfl ?_
  refine g_iload_n C 0 1 d_SF_init_34 rfl rfl ?_
  refine g_new (ci := 4) C [some none, some none, none] ty_SL tyok_SL d_SF_init_35 in_SL mw_87 mw_88 mw_66 rfl (hM 34 (by decide)) (fun j hj => by rcases (show j = 0 ∨ j = 1 ∨ j = 2 by omega) with rfl | rfl | rfl <;> rfl) (by decide) (by decide) (fun q34 => ?_)
  refine g_dup C d_SF_init_38 rfl ?_
  refine g_callIN C [] [.ref q34, .int (10 : Int32), .ref q2] (c_SL_init 34 35 (by decide) rfl (hM 35 (by decide)) (hM 36 (by decide))) (em_cnB C 0 mn_35 mw_66 mw_90 rfl rfl (by decide +kernel) (by decide)) rfl mw_89 rfl rfl (Nat.le_of_ble_eq_true rfl) d_SF_init_39 (by decide) (fun u34 _ => ?_)
  refine g_aast C 2 34 rfl rfl d_SF_init_42 (by decide) rfl (by decide) rfl rfl rfl (pk_in 10 12 (by decide)) ?_
  refine g_iinc (v := 11) (lv' := [(1, .int (11 : Int32)), (0, .ref (ad 1))]) C 0 d_SF_init_43 rfl (by decide) (by decide) rfl ?_
  refine g_goto (tgt := 24) C d_SF_init_46 (by decide) ?_
  refine g_iload_n C 0 1 d_SF_init_24 rfl rfl ?_
  refine g_bipush (v := 12) C d_SF_init_25 (by decide) ?_
  refine g_icmp_ge (tgt := 49) C d_SF_init_27 (by decide) (fun h => absurd h (by decide)) (fun _ => ?_)
  refine g_aload_n C 1 0 d_SF_init_30 rfl rfl ?_
  refine g_getr C 1 0 rfl d_SF_init_31 (by decide) rfl rfl (by decide) rfl in_SF mw_99 rfl ?_
  refine g_iload_n C 0 1 d_SF_init_34 rfl rfl ?_
  refine g_new (ci := 4) C [some none, some none, none] ty_SL tyok_SL d_SF_init_35 in_SL mw_87 mw_88 mw_66 rfl (hM 37 (by decide)) (fun j hj => by rcases (show j = 0 ∨ j = 1 ∨ j = 2 by omega) with rfl | rfl | rfl <;> rfl) (by decide) (by decide) (fun q37 => ?_)
  refine g_dup C d_SF_init_38 rfl ?_
  refine g_callIN C [] [.ref q37, .int (11 : Int32), .ref q2] (c_SL_init 37 38 (by decide) rfl (hM 38 (by decide)) (hM 39 (by decide))) (em_cnB C 0 mn_35 mw_66 mw_90 rfl rfl (by decide +kernel) (by decide)) rfl mw_89 rfl rfl (Nat.le_of_ble_eq_true rfl) d_SF_init_39 (by decide) (fun u37 _ => ?_)
  refine g_aast C 2 37 rfl rfl d_SF_init_42 (by decide) rfl (by decide) rfl rfl rfl (pk_in 11 12 (by decide)) ?_
  refine g_iinc (v := 12) (lv' := [(1, .int (12 : Int32)), (0, .ref (ad 1))]) C 0 d_SF_init_43 rfl (by decide) (by decide) rfl ?_
  refine g_goto (tgt := 24) C d_SF_init_46 (by decide) ?_
  refine g_iload_n C 0 1 d_SF_init_24 rfl rfl ?_
  refine g_bipush (v := 12) C d_SF_init_25 (by decide) ?_
  refine g_icmp_ge (tgt := 49) C d_SF_init_27 (by decide) (fun _ => ?_) (fun h => absurd (by decide) h)
  exact g_vretC C (fun j => if j = 2 then q2 else if j = 3 then q3 else if j = 4 then q4 else if j = 5 then (u4 5) else if j = 6 then (u4 6) else if j = 7 then q7 else if j = 8 then (u7 8) else if j = 9 then (u7 9) else if j = 10 then q10 else if j = 11 then (u10 11) else if j = 12 then (u10 12) else if j = 13 then q13 else if j = 14 then (u13 14) else if j = 15 then (u13 15) else if j = 16 then q16 else if j = 17 then (u16 17) else if j = 18 then (u16 18) else if j = 19 then q19 else if j = 20 then (u19 20) else if j = 21 then (u19 21) else if j = 22 then q22 else if j = 23 then (u22 23) else if j = 24 then (u22 24) else if j = 25 then q25 else if j = 26 then (u25 26) else if j = 27 then (u25 27) else if j = 28 then q28 else if j = 29 then (u28 29) else if j = 30 then (u28 30) else if j = 31 then q31 else if j = 32 then (u31 32) else if j = 33 then (u31 33) else if j = 34 then q34 else if j = 35 then (u34 35) else if j = 36 then (u34 36) else if j = 37 then q37 else if j = 38 then (u37 38) else if j = 39 then (u37 39) else 0) hQ rfl d_SF_init_49 trivial (fun k _ => ⟨rfl, rfl, rfl⟩)
def ad_QU_init (ad u : Nat → Nat) : Nat → Nat := (va_up (va_up ad 41 (u 41)) 42 (u 42))
def sh_QU_init (ad : Nat → Nat) (sh : Nat → em_Sh) (u : Nat → Nat) : Nat → em_Sh := (va_up (va_up (va_up (va_up (va_up sh 41 (.inl (0, 12))) 40 (.inr (.inl (2, (([some none, some none, some none, none, none, none, none] : List (Option (Option Nat))).set 1 (some (some (u 41)))))))) 42 (.inl (0, 12))) 40 (.inr (.inl (2, (((([some none, some none, some none, none, none, none, none] : List (Option (Option Nat))).set 1 (some (some (u 41)))) : List (Option (Option Nat))).set 2 (some (some (u 42)))))))) 40 (.inr (.inl (2, (((((([some none, some none, some none, none, none, none, none] : List (Option (Option Nat))).set 1 (some (some (u 41)))) : List (Option (Option Nat))).set 2 (some (some (u 42)))) : List (Option (Option Nat))).set 0 (some (some (ad 1))))))))
def M_QU_init (M : em_M) : em_M := (em_up (em_up (em_up (em_up (em_up (em_up (em_up (em_up (em_up (em_up (em_up (em_up (em_up (em_up (em_up (em_up (em_up (em_up (em_up (em_up (em_up (em_up (em_up (em_up (em_up M 40 3 (10 : Int32)) 41 (0 : Int32).toNatClampNeg (0 : Int32)) 42 (0 : Int32).toNatClampNeg (1 : Int32)) 41 (1 : Int32).toNatClampNeg (0 : Int32)) 42 (1 : Int32).toNatClampNeg (1 : Int32)) 41 (2 : Int32).toNatClampNeg (0 : Int32)) 42 (2 : Int32).toNatClampNeg (1 : Int32)) 41 (3 : Int32).toNatClampNeg (0 : Int32)) 42 (3 : Int32).toNatClampNeg (1 : Int32)) 41 (4 : Int32).toNatClampNeg (0 : Int32)) 42 (4 : Int32).toNatClampNeg (1 : Int32)) 41 (5 : Int32).toNatClampNeg (0 : Int32)) 42 (5 : Int32).toNatClampNeg (1 : Int32)) 41 (6 : Int32).toNatClampNeg (0 : Int32)) 42 (6 : Int32).toNatClampNeg (1 : Int32)) 41 (7 : Int32).toNatClampNeg (0 : Int32)) 42 (7 : Int32).toNatClampNeg (1 : Int32)) 41 (8 : Int32).toNatClampNeg (0 : Int32)) 42 (8 : Int32).toNatClampNeg (1 : Int32)) 41 (9 : Int32).toNatClampNeg (0 : Int32)) 42 (9 : Int32).toNatClampNeg (1 : Int32)) 41 (10 : Int32).toNatClampNeg (0 : Int32)) 42 (10 : Int32).toNatClampNeg (1 : Int32)) 41 (11 : Int32).toNatClampNeg (0 : Int32)) 42 (11 : Int32).toNatClampNeg (1 : Int32))
theorem hM_QU_init {M : em_M} (hM : ∀ j, 43 ≤ j → M j = fun _ => 0) : ∀ j, 43 ≤ j → M_QU_init M j = fun _ => 0 := by
  intro j hj
  unfold M_QU_init
  repeat rw [em_up_ne (by omega)]
  exact hM j hj
abbrev rm_QU_init : Room := { frames := 1, cells := 2, slots := 24, locals := 20 }
set_option maxHeartbeats 8000000 in
set_option maxRecDepth 100000 in
theorem c_QU_init {l : Launch} {D : va_G} {b0 : Nat} {cT : Nat → ClassId} {ad : Nat → Nat} {sh : Nat → em_Sh} {M : em_M} (hs : sh 40 = .inr (.inl (2, [some none, some none, some none, none, none, none, none]))) (hM : ∀ j, 41 ≤ j → M j = fun _ => 0) : Met l y_QU_init (.code y_QU_init b_QU_init 3 none :: wAll) rm_QU_init (va_Pc [.ref (ad 40), .ref (ad 1)] (em_U D b0 cT ad sh 41 M)) (va_Qv (fun _ : Nat → Nat => True) (fun u t => em_U D b0 cT (ad_QU_init ad u) (sh_QU_init ad sh u) 43 (M_QU_init M) t) (em_A b0)) 2 24 (em_A b0) := by
  refine em_met (by decide) rfl (Nat.le_of_ble_eq_true rfl) (fun X C _ hnm hQ => ?_)
  refine g_aload_n C 0 0 d_QU_init_0 rfl rfl ?_
  refine g_objInit C d_QU_init_1 mw_107 mw_80 mw_81 (by decide) (Nat.le_of_ble_eq_true rfl) ?_
  refine g_aload_n C 0 0 d_QU_init_4 rfl rfl ?_
  refine g_bipush (v := 12) C d_QU_init_5 (by decide) ?_
  refine g_newa C 0 12 d_QU_init_7 mw_98 rfl (hM 41 (by decide)) (by decide) (by decide) (by decide) (by decide) (by decide) (fun q41 => ?_)
  refine g_putF C 40 1 rfl ty_QU tyok_QU nm_QU d_QU_init_9 (by decide) hs rfl (by decide) (Nat.le_of_ble_eq_true rfl) in_QU mw_109 rfl rfl hnm rfl rfl rfl rfl ?_
  refine g_aload_n C 0 0 d_QU_init_12 rfl rfl ?_
  refine g_bipush (v := 12) C d_QU_init_13 (by decide) ?_
  refine g_newa C 0 12 d_QU_init_15 mw_98 rfl (hM 42 (by decide)) (by decide) (by decide) (by decide) (by decide) (by decide) (fun q42 => ?_)
  refine g_putF C 40 2 rfl ty_QU tyok_QU nm_QU d_QU_init_17 (by decide) rfl rfl (by decide) (Nat.le_of_ble_eq_true rfl) in_QU mw_110 rfl rfl hnm rfl rfl rfl rfl ?_
  refine g_aload_n C 0 0 d_QU_init_20 rfl rfl ?_
  refine g_bipush (v := 10) C d_QU_init_21 (by decide) ?_
  refine g_puti C 40 3 rfl ty_QU tyok_QU nm_QU d_QU_init_23 (by decide) rfl rfl (by decide) rfl in_QU mw_111 rfl rfl rfl rfl rfl ?_
  refine g_aload_n C 0 0 d_QU_init_26 rfl rfl ?_
  refine g_aload_n C 1 1 d_QU_init_27 rfl rfl ?_
  refine g_putF C 40 0 rfl ty_QU tyok_QU nm_QU d_QU_init_28 (by decide) rfl rfl (by decide) (Nat.le_of_ble_eq_true rfl) in_QU mw_108 rfl rfl hnm rfl rfl rfl rfl ?_
  refine g_iconst (v := 0) C d_QU_init_31 (by decide) ?_
  refine g_istore_n (lv' := [(2, .int (0 : Int32)), (0, .ref (ad 40)), (1, .ref (ad 1))]) C 2 d_QU_init_32 rfl (by decide) rfl ?_
  refine g_iload_n C 0 2 d_QU_init_33 rfl rfl ?_
  refine g_bipush (v := 12) C d_QU_init_34 (by decide) ?_
  refine g_icmp_ge (tgt := 59) C d_QU_init_36 (by decide) (fun h => absurd h (by decide)) (fun _ => ?_)
  refine g_aload_n C 1 0 d_QU_init_39 rfl rfl ?_
  refine g_getr C 40 1 rfl d_QU_init_40 (by decide) rfl rfl (by decide) rfl in_QU mw_109 rfl ?_
  refine g_iload_n C 0 2 d_QU_init_43 rfl rfl ?_
  refine g_iconst (v := 0) C d_QU_init_44 (by decide) ?_
  refine g_iast C 41 rfl d_QU_init_45 (by decide) rfl rfl (pk_in 0 12 (by decide)) ?_
  refine g_aload_n C 1 0 d_QU_init_46 rfl rfl ?_
  refine g_getr C 40 2 rfl d_QU_init_47 (by decide) rfl rfl (by decide) rfl in_QU mw_110 rfl ?_
  refine g_iload_n C 0 2 d_QU_init_50 rfl rfl ?_
  refine g_iconst (v := 1) C d_QU_init_51 (by decide) ?_
  refine g_iast C 42 rfl d_QU_init_52 (by decide) rfl rfl (pk_in 0 12 (by decide)) ?_
  refine g_iinc (v := 1) (lv' := [(2, .int (1 : Int32)), (0, .ref (ad 40)), (1, .ref (ad 1))]) C 0 d_QU_init_53 rfl (by decide) (by decide) rfl ?_
  refine g_goto (tgt := 33) C d_QU_init_56 (by decide) ?_
  refine g_iload_n C 0 2 d_QU_init_33 rfl rfl ?_
  refine g_bipush (v := 12) C d_QU_init_34 (by decide) ?_
  refine g_icmp_ge (tgt := 59) C d_QU_init_36 (by decide) (fun h => absurd h (by decide)) (fun _ => ?_)
  refine g_aload_n C 1 0 d_QU_init_39 rfl rfl ?_
  refine g_getr C 40 1 rfl d_QU_init_40 (by decide) rfl rfl (by decide) rfl in_QU mw_109 rfl ?_
  refine g_iload_n C 0 2 d_QU_init_43 rfl rfl ?_
  refine g_iconst (v := 0) C d_QU_init_44 (by decide) ?_
  refine g_iast C 41 rfl d_QU_init_45 (by decide) rfl rfl (pk_in 1 12 (by decide)) ?_
  refine g_aload_n C 1 0 d_QU_init_46 rfl rfl ?_
  refine g_getr C 40 2 rfl d_QU_init_47 (by decide) rfl rfl (by decide) rfl in_QU mw_110 rfl ?_
  refine g_iload_n C 0 2 d_QU_init_50 rfl rfl ?_
  refine g_iconst (v := 1) C d_QU_init_51 (by decide) ?_
  refine g_iast C 42 rfl d_QU_init_52 (by decide) rfl rfl (pk_in 1 12 (by decide)) ?_
  refine g_iinc (v := 2) (lv' := [(2, .int (2 : Int32)), (0, .ref (ad 40)), (1, .ref (ad 1))]) C 0 d_QU_init_53 rfl (by decide) (by decide) rfl ?_
  refine g_goto (tgt := 33) C d_QU_init_56 (by decide) ?_
  refine g_iload_n C 0 2 d_QU_init_33 rfl rfl ?_
  refine g_bipush (v := 12) C d_QU_init_34 (by decide) ?_
  refine g_icmp_ge (tgt := 59) C d_QU_init_36 (by decide) (fun h => absurd h (by decide)) (fun _ => ?_)
  refine g_aload_n C 1 0 d_QU_init_39 rfl rfl ?_
  refine g_getr C 40 1 rfl d_QU_init_40 (by decide) rfl rfl (by decide) rfl in_QU mw_109 rfl ?_
  refine g_iload_n C 0 2 d_QU_init_43 rfl rfl ?_
  refine g_iconst (v := 0) C d_QU_init_44 (by decide) ?_
  refine g_iast C 41 rfl d_QU_init_45 (by decide) rfl rfl (pk_in 2 12 (by decide)) ?_
  refine g_aload_n C 1 0 d_QU_init_46 rfl rfl ?_
  refine g_getr C 40 2 rfl d_QU_init_47 (by decide) rfl rfl (by decide) rfl in_QU mw_110 rfl ?_
  refine g_iload_n C 0 2 d_QU_init_50 rfl rfl ?_
  refine g_iconst (v := 1) C d_QU_init_51 (by decide) ?_
  refine g_iast C 42 rfl d_QU_init_52 (by decide) rfl rfl (pk_in 2 12 (by decide)) ?_
  refine g_iinc (v := 3) (lv' := [(2, .int (3 : Int32)), (0, .ref (ad 40)), (1, .ref (ad 1))]) C 0 d_QU_init_53 rfl (by decide) (by decide) rfl ?_
  refine g_goto (tgt := 33) C d_QU_init_56 (by decide) ?_
  refine g_iload_n C 0 2 d_QU_init_33 rfl rfl ?_
  refine g_bipush (v := 12) C d_QU_init_34 (by decide) ?_
  refine g_icmp_ge (tgt := 59) C d_QU_init_36 (by decide) (fun h => absurd h (by decide)) (fun _ => ?_)
  refine g_aload_n C 1 0 d_QU_init_39 rfl rfl ?_
  refine g_getr C 40 1 rfl d_QU_init_40 (by decide) rfl rfl (by decide) rfl in_QU mw_109 rfl ?_
  refine g_iload_n C 0 2 d_QU_init_43 rfl rfl ?_
  refine g_iconst (v := 0) C d_QU_init_44 (by decide) ?_
  refine g_iast C 41 rfl d_QU_init_45 (by decide) rfl rfl (pk_in 3 12 (by decide)) ?_
  refine g_aload_n C 1 0 d_QU_init_46 rfl rfl ?_
  refine g_getr C 40 2 rfl d_QU_init_47 (by decide) rfl rfl (by decide) rfl in_QU mw_110 rfl ?_
  refine g_iload_n C 0 2 d_QU_init_50 rfl rfl ?_
  refine g_iconst (v := 1) C d_QU_init_51 (by decide) ?_
  refine g_iast C 42 rfl d_QU_init_52 (by decide) rfl rfl (pk_in 3 12 (by decide)) ?_
  refine g_iinc (v := 4) (lv' := [(2, .int (4 : Int32)), (0, .ref (ad 40)), (1, .ref (ad 1))]) C 0 d_QU_init_53 rfl (by decide) (by decide) rfl ?_
  refine g_goto (tgt := 33) C d_QU_init_56 (by decide) ?_
  refine g_iload_n C 0 2 d_QU_init_33 rfl rfl ?_
  refine g_bipush (v := 12) C d_QU_init_34 (by decide) ?_
  refine g_icmp_ge (tgt := 59) C d_QU_init_36 (by decide) (fun h => absurd h (by decide)) (fun _ => ?_)
  refine g_aload_n C 1 0 d_QU_init_39 rfl rfl ?_
  refine g_getr C 40 1 rfl d_QU_init_40 (by decide) rfl rfl (by decide) rfl in_QU mw_109 rfl ?_
  refine g_iload_n C 0 2 d_QU_init_43 rfl rfl ?_
  refine g_iconst (v := 0) C d_QU_init_44 (by decide) ?_
  refine g_iast C 41 rfl d_QU_init_45 (by decide) rfl rfl (pk_in 4 12 (by decide)) ?_
  refine g_aload_n C 1 0 d_QU_init_46 rfl rfl ?_
  refine g_getr C 40 2 rfl d_QU_init_47 (by decide) rfl rfl (by decide) rfl in_QU mw_110 rfl ?_
  refine g_iload_n C 0 2 d_QU_init_50 rfl rfl ?_
  refine g_iconst (v := 1) C d_QU_init_51 (by decide) ?_
  refine g_iast C 42 rfl d_QU_init_52 (by decide) rfl rfl (pk_in 4 12 (by decide)) ?_
  refine g_iinc (v := 5) (lv' := [(2, .int (5 : Int32)), (0, .ref (ad 40)), (1, .ref (ad 1))]) C 0 d_QU_init_53 rfl (by decide) (by decide) rfl ?_
  refine g_goto (tgt := 33) C d_QU_init_56 (by decide) ?_
  refine g_iload_n C 0 2 d_QU_init_33 rfl rfl ?_
  refine g_bipush (v := 12) C d_QU_init_34 (by decide) ?_
  refine g_icmp_ge (tgt := 59) C d_QU_init_36 (by decide) (fun h => absurd h (by decide)) (fun _ => ?_)
  refine g_aload_n C 1 0 d_QU_init_39 rfl rfl ?_
  refine g_getr C 40 1 rfl d_QU_init_40 (by decide) rfl rfl (by decide) rfl in_QU mw_109 rfl ?_
  refine g_iload_n C 0 2 d_QU_init_43 rfl rfl ?_
  refine g_iconst (v := 0) C d_QU_init_44 (by decide) ?_
  refine g_iast C 41 rfl d_QU_init_45 (by decide) rfl rfl (pk_in 5 12 (by decide)) ?_
  refine g_aload_n C 1 0 d_QU_init_46 rfl rfl ?_
  refine g_getr C 40 2 rfl d_QU_init_47 (by decide) rfl rfl (by decide) rfl in_QU mw_110 rfl ?_
  refine g_iload_n C 0 2 d_QU_init_50 rfl rfl ?_
  refine g_iconst (v := 1) C d_QU_init_51 (by decide) ?_
  refine g_iast C 42 rfl d_QU_init_52 (by decide) rfl rfl (pk_in 5 12 (by decide)) ?_
  refine g_iinc (v := 6) (lv' := [(2, .int (6 : Int32)), (0, .ref (ad 40)), (1, .ref (ad 1))]) C 0 d_QU_init_53 rfl (by decide) (by decide) rfl ?_
  refine g_goto (tgt := 33) C d_QU_init_56 (by decide) ?_
  refine g_iload_n C 0 2 d_QU_init_33 rfl rfl ?_
  refine g_bipush (v := 12) C d_QU_init_34 (by decide) ?_
  refine g_icmp_ge (tgt := 59) C d_QU_init_36 (by decide) (fun h => absurd h (by decide)) (fun _ => ?_)
  refine g_aload_n C 1 0 d_QU_init_39 rfl rfl ?_
  refine g_getr C 40 1 rfl d_QU_init_40 (by decide) rfl rfl (by decide) rfl in_QU mw_109 rfl ?_
  refine g_iload_n C 0 2 d_QU_init_43 rfl rfl ?_
  refine g_iconst (v := 0) C d_QU_init_44 (by decide) ?_
  refine g_iast C 41 rfl d_QU_init_45 (by decide) rfl rfl (pk_in 6 12 (by decide)) ?_
  refine g_aload_n C 1 0 d_QU_init_46 rfl rfl ?_
  refine g_getr C 40 2 rfl d_QU_init_47 (by decide) rfl rfl (by decide) rfl in_QU mw_110 rfl ?_
  refine g_iload_n C 0 2 d_QU_init_50 rfl rfl ?_
  refine g_iconst (v := 1) C d_QU_init_51 (by decide) ?_
  refine g_iast C 42 rfl d_QU_init_52 (by decide) rfl rfl (pk_in 6 12 (by decide)) ?_
  refine g_iinc (v := 7) (lv' := [(2, .int (7 : Int32)), (0, .ref (ad 40)), (1, .ref (ad 1))]) C 0 d_QU_init_53 rfl (by decide) (by decide) rfl ?_
  refine g_goto (tgt := 33) C d_QU_init_56 (by decide) ?_
  refine g_iload_n C 0 2 d_QU_init_33 rfl rfl ?_
  refine g_bipush (v := 12) C d_QU_init_34 (by decide) ?_
  refine g_icmp_ge (tgt := 59) C d_QU_init_36 (by decide) (fun h => absurd h (by decide)) (fun _ => ?_)
  refine g_aload_n C 1 0 d_QU_init_39 rfl rfl ?_
  refine g_getr C 40 1 rfl d_QU_init_40 (by decide) rfl rfl (by decide) rfl in_QU mw_109 rfl ?_
  refine g_iload_n C 0 2 d_QU_init_43 rfl rfl ?_
  refine g_iconst (v := 0) C d_QU_init_44 (by decide) ?_
  refine g_iast C 41 rfl d_QU_init_45 (by decide) rfl rfl (pk_in 7 12 (by decide)) ?_
  refine g_aload_n C 1 0 d_QU_init_46 rfl rfl ?_
  refine g_getr C 40 2 rfl d_QU_init_47 (by decide) rfl rfl (by decide) rfl in_QU mw_110 rfl ?_
  refine g_iload_n C 0 2 d_QU_init_50 rfl rfl ?_
  refine g_iconst (v := 1) C d_QU_init_51 (by decide) ?_
  refine g_iast C 42 rfl d_QU_init_52 (by decide) rfl rfl (pk_in 7 12 (by decide)) ?_
  refine g_iinc (v := 8) (lv' := [(2, .int (8 : Int32)), (0, .ref (ad 40)), (1, .ref (ad 1))]) C 0 d_QU_init_53 rfl (by decide) (by decide) rfl ?_
  refine g_goto (tgt := 33) C d_QU_init_56 (by decide) ?_
  refine g_iload_n C 0 2 d_QU_init_33 rfl rfl ?_
  refine g_bipush (v := 12) C d_QU_init_34 (by decide) ?_
  refine g_icmp_ge (tgt := 59) C d_QU_init_36 (by decide) (fun h => absurd h (by decide)) (fun _ => ?_)
  refine g_aload_n C 1 0 d_QU_init_39 rfl rfl ?_
  refine g_getr C 40 1 rfl d_QU_init_40 (by decide) rfl rfl (by decide) rfl in_QU mw_109 rfl ?_
  refine g_iload_n C 0 2 d_QU_init_43 rfl rfl ?_
  refine g_iconst (v := 0) C d_QU_init_44 (by decide) ?_
  refine g_iast C 41 rfl d_QU_init_45 (by decide) rfl rfl (pk_in 8 12 (by decide)) ?_
  refine g_aload_n C 1 0 d_QU_init_46 rfl rfl ?_
  refine g_getr C 40 2 rfl d_QU_init_47 (by decide) rfl rfl (by decide) rfl in_QU mw_110 rfl ?_
  refine g_iload_n C 0 2 d_QU_init_50 rfl rfl ?_
  refine g_iconst (v := 1) C d_QU_init_51 (by decide) ?_
  refine g_iast C 42 rfl d_QU_init_52 (by decide) rfl rfl (pk_in 8 12 (by decide)) ?_
  refine g_iinc (v := 9) (lv' := [(2, .int (9 : Int32)), (0, .ref (ad 40)), (1, .ref (ad 1))]) C 0 d_QU_init_53 rfl (by decide) (by decide) rfl ?_
  refine g_goto (tgt := 33) C d_QU_init_56 (by decide) ?_
  refine g_iload_n C 0 2 d_QU_init_33 rfl rfl ?_
  refine g_bipush (v := 12) C d_QU_init_34 (by decide) ?_
  refine g_icmp_ge (tgt := 59) C d_QU_init_36 (by decide) (fun h => absurd h (by decide)) (fun _ => ?_)
  refine g_aload_n C 1 0 d_QU_init_39 rfl rfl ?_
  refine g_getr C 40 1 rfl d_QU_init_40 (by decide) rfl rfl (by decide) rfl in_QU mw_109 rfl ?_
  refine g_iload_n C 0 2 d_QU_init_43 rfl rfl ?_
  refine g_iconst (v := 0) C d_QU_init_44 (by decide) ?_
  refine g_iast C 41 rfl d_QU_init_45 (by decide) rfl rfl (pk_in 9 12 (by decide)) ?_
  refine g_aload_n C 1 0 d_QU_init_46 rfl rfl ?_
  refine g_getr C 40 2 rfl d_QU_init_47 (by decide) rfl rfl (by decide) rfl in_QU mw_110 rfl ?_
  refine g_iload_n C 0 2 d_QU_init_50 rfl rfl ?_
  refine g_iconst (v := 1) C d_QU_init_51 (by decide) ?_
  refine g_iast C 42 rfl d_QU_init_52 (by decide) rfl rfl (pk_in 9 12 (by decide)) ?_
  refine g_iinc (v := 10) (lv' := [(2, .int (10 : Int32)), (0, .ref (ad 40)), (1, .ref (ad 1))]) C 0 d_QU_init_53 rfl (by decide) (by decide) rfl ?_
  refine g_goto (tgt := 33) C d_QU_init_56 (by decide) ?_
  refine g_iload_n C 0 2 d_QU_init_33 rfl rfl ?_
  refine g_bipush (v := 12) C d_QU_init_34 (by decide) ?_
  refine g_icmp_ge (tgt := 59) C d_QU_init_36 (by decide) (fun h => absurd h (by decide)) (fun _ => ?_)
  refine g_aload_n C 1 0 d_QU_init_39 rfl rfl ?_
  refine g_getr C 40 1 rfl d_QU_init_40 (by decide) rfl rfl (by decide) rfl in_QU mw_109 rfl ?_
  refine g_iload_n C 0 2 d_QU_init_43 rfl rfl ?_
  refine g_iconst (v := 0) C d_QU_init_44 (by decide) ?_
  refine g_iast C 41 rfl d_QU_init_45 (by decide) rfl rfl (pk_in 10 12 (by decide)) ?_
  refine g_aload_n C 1 0 d_QU_init_46 rfl rfl ?_
  refine g_getr C 40 2 rfl d_QU_init_47 (by decide) rfl rfl (by decide) rfl in_QU mw_110 rfl ?_
  refine g_iload_n C 0 2 d_QU_init_50 rfl rfl ?_
  refine g_iconst (v := 1) C d_QU_init_51 (by decide) ?_
  refine g_iast C 42 rfl d_QU_init_52 (by decide) rfl rfl (pk_in 10 12 (by decide)) ?_
  refine g_iinc (v := 11) (lv' := [(2, .int (11 : Int32)), (0, .ref (ad 40)), (1, .ref (ad 1))]) C 0 d_QU_init_53 rfl (by decide) (by decide) rfl ?_
  refine g_goto (tgt := 33) C d_QU_init_56 (by decide) ?_
  refine g_iload_n C 0 2 d_QU_init_33 rfl rfl ?_
  refine g_bipush (v := 12) C d_QU_init_34 (by decide) ?_
  refine g_icmp_ge (tgt := 59) C d_QU_init_36 (by decide) (fun h => absurd h (by decide)) (fun _ => ?_)
  refine g_aload_n C 1 0 d_QU_init_39 rfl rfl ?_
  refine g_getr C 40 1 rfl d_QU_init_40 (by decide) rfl rfl (by decide) rfl in_QU mw_109 rfl ?_
  refine g_iload_n C 0 2 d_QU_init_43 rfl rfl ?_
  refine g_iconst (v := 0) C d_QU_init_44 (by decide) ?_
  refine g_iast C 41 rfl d_QU_init_45 (by decide) rfl rfl (pk_in 11 12 (by decide)) ?_
  refine g_aload_n C 1 0 d_QU_init_46 rfl rfl ?_
  refine g_getr C 40 2 rfl d_QU_init_47 (by decide) rfl rfl (by decide) rfl in_QU mw_110 rfl ?_
  refine g_iload_n C 0 2 d_QU_init_50 rfl rfl ?_
  refine g_iconst (v := 1) C d_QU_init_51 (by decide) ?_
  refine g_iast C 42 rfl d_QU_init_52 (by decide) rfl rfl (pk_in 11 12 (by decide)) ?_
  refine g_iinc (v := 12) (lv' := [(2, .int (12 : Int32)), (0, .ref (ad 40)), (1, .ref (ad 1))]) C 0 d_QU_init_53 rfl (by decide) (by decide) rfl ?_
  refine g_goto (tgt := 33) C d_QU_init_56 (by decide) ?_
  refine g_iload_n C 0 2 d_QU_init_33 rfl rfl ?_
  refine g_bipush (v := 12) C d_QU_init_34 (by decide) ?_
  refine g_icmp_ge (tgt := 59) C d_QU_init_36 (by decide) (fun _ => ?_) (fun h => absurd (by decide) h)
  exact g_vretC C (fun j => if j = 41 then q41 else if j = 42 then q42 else 0) hQ rfl d_QU_init_59 trivial (fun k _ => ⟨rfl, rfl, rfl⟩)
def ad_RK_init (ad u : Nat → Nat) : Nat → Nat := (va_up (va_up (va_up (va_up ad 44 (u 44)) 45 (u 45)) 46 (u 46)) 47 (u 47))
def sh_RK_init (ad : Nat → Nat) (sh : Nat → em_Sh) (u : Nat → Nat) : Nat → em_Sh := (va_up (va_up (va_up (va_up (va_up (va_up (va_up (va_up sh 44 (.inl (0, 20))) 43 (.inr (.inl (3, (([some none, some none, some none, some none, none, none] : List (Option (Option Nat))).set 0 (some (some (u 44)))))))) 45 (.inl (0, 20))) 43 (.inr (.inl (3, (((([some none, some none, some none, some none, none, none] : List (Option (Option Nat))).set 0 (some (some (u 44)))) : List (Option (Option Nat))).set 1 (some (some (u 45)))))))) 46 (.inl (0, 20))) 43 (.inr (.inl (3, (((((([some none, some none, some none, some none, none, none] : List (Option (Option Nat))).set 0 (some (some (u 44)))) : List (Option (Option Nat))).set 1 (some (some (u 45)))) : List (Option (Option Nat))).set 2 (some (some (u 46)))))))) 47 (.inl (0, 20))) 43 (.inr (.inl (3, (((((((([some none, some none, some none, some none, none, none] : List (Option (Option Nat))).set 0 (some (some (u 44)))) : List (Option (Option Nat))).set 1 (some (some (u 45)))) : List (Option (Option Nat))).set 2 (some (some (u 46)))) : List (Option (Option Nat))).set 3 (some (some (u 47))))))))
def M_RK_init (M : em_M) : em_M := M
abbrev rm_RK_init : Room := { frames := 1, cells := 4, slots := 80, locals := 20 }
set_option maxHeartbeats 8000000 in
set_option maxRecDepth 100000 in
theorem c_RK_init {l : Launch} {D : va_G} {b0 : Nat} {cT : Nat → ClassId} {ad : Nat → Nat} {sh : Nat → em_Sh} {M : em_M} (hs : sh 43 = .inr (.inl (3, [some none, some none, some none, some none, none, none]))) (hM : ∀ j, 44 ≤ j → M j = fun _ => 0) : Met l y_RK_init (.code y_RK_init b_RK_init 1 none :: wAll) rm_RK_init (va_Pc [.ref (ad 43)] (em_U D b0 cT ad sh 44 M)) (va_Qv (fun _ : Nat → Nat => True) (fun u t => em_U D b0 cT (ad_RK_init ad u) (sh_RK_init ad sh u) 48 (M_RK_init M) t) (em_A b0)) 4 80 (em_A b0) := by
  refine em_met (by decide) rfl (Nat.le_of_ble_eq_true rfl) (fun X C _ hnm hQ => ?_)
  refine g_aload_n C 0 0 d_RK_init_0 rfl rfl ?_
  refine g_objInit C d_RK_init_1 mw_126 mw_80 mw_81 (by decide) (Nat.le_of_ble_eq_true rfl) ?_
  refine g_aload_n C 0 0 d_RK_init_4 rfl rfl ?_
  refine g_bipush (v := 20) C d_RK_init_5 (by decide) ?_
  refine g_newa C 0 20 d_RK_init_7 mw_98 rfl (hM 44 (by decide)) (by decide) (by decide) (by decide) (by decide) (by decide) (fun q44 => ?_)
  refine g_putF C 43 0 rfl ty_RK tyok_RK nm_RK d_RK_init_9 (by decide) hs rfl (by decide) (Nat.le_of_ble_eq_true rfl) in_RK mw_127 rfl rfl hnm rfl rfl rfl rfl ?_
  refine g_aload_n C 0 0 d_RK_init_12 rfl rfl ?_
  refine g_bipush (v := 20) C d_RK_init_13 (by decide) ?_
  refine g_newa C 0 20 d_RK_init_15 mw_98 rfl (hM 45 (by decide)) (by decide) (by decide) (by decide) (by decide) (by decide) (fun q45 => ?_)
  refine g_putF C 43 1 rfl ty_RK tyok_RK nm_RK d_RK_init_17 (by decide) rfl rfl (by decide) (Nat.le_of_ble_eq_true rfl) in_RK mw_128 rfl rfl hnm rfl rfl rfl rfl ?_
  refine g_aload_n C 0 0 d_RK_init_20 rfl rfl ?_
  refine g_bipush (v := 20) C d_RK_init_21 (by decide) ?_
  refine g_newa C 0 20 d_RK_init_23 mw_98 rfl (hM 46 (by decide)) (by decide) (by decide) (by decide) (by decide) (by decide) (fun q46 => ?_)
  refine g_putF C 43 2 rfl ty_RK tyok_RK nm_RK d_RK_init_25 (by decide) rfl rfl (by decide) (Nat.le_of_ble_eq_true rfl) in_RK mw_129 rfl rfl hnm rfl rfl rfl rfl ?_
  refine g_aload_n C 0 0 d_RK_init_28 rfl rfl ?_
  refine g_bipush (v := 20) C d_RK_init_29 (by decide) ?_
  refine g_newa C 0 20 d_RK_init_31 mw_98 rfl (hM 47 (by decide)) (by decide) (by decide) (by decide) (by decide) (by decide) (fun q47 => ?_)
  refine g_putF C 43 3 rfl ty_RK tyok_RK nm_RK d_RK_init_33 (by decide) rfl rfl (by decide) (Nat.le_of_ble_eq_true rfl) in_RK mw_130 rfl rfl hnm rfl rfl rfl rfl ?_
  exact g_vretC C (fun j => if j = 44 then q44 else if j = 45 then q45 else if j = 46 then q46 else if j = 47 then q47 else 0) hQ rfl d_RK_init_36 trivial (fun k _ => ⟨rfl, rfl, rfl⟩)
def ad_LW_init (ad u : Nat → Nat) : Nat → Nat := (va_up (va_up ad 49 (u 49)) 50 (u 50))
def sh_LW_init (ad : Nat → Nat) (sh : Nat → em_Sh) (u : Nat → Nat) : Nat → em_Sh := (va_up (va_up (va_up (va_up (va_up (va_up (va_up sh 49 (.inl (0, 12))) 48 (.inr (.inl (1, (([some none, some none, some none, some none, some none, none, none, none, none, none, none, none] : List (Option (Option Nat))).set 3 (some (some (u 49)))))))) 50 (.inl (0, 12))) 48 (.inr (.inl (1, (((([some none, some none, some none, some none, some none, none, none, none, none, none, none, none] : List (Option (Option Nat))).set 3 (some (some (u 49)))) : List (Option (Option Nat))).set 4 (some (some (u 50)))))))) 48 (.inr (.inl (1, (((((([some none, some none, some none, some none, some none, none, none, none, none, none, none, none] : List (Option (Option Nat))).set 3 (some (some (u 49)))) : List (Option (Option Nat))).set 4 (some (some (u 50)))) : List (Option (Option Nat))).set 0 (some (some (ad 1)))))))) 48 (.inr (.inl (1, (((((((([some none, some none, some none, some none, some none, none, none, none, none, none, none, none] : List (Option (Option Nat))).set 3 (some (some (u 49)))) : List (Option (Option Nat))).set 4 (some (some (u 50)))) : List (Option (Option Nat))).set 0 (some (some (ad 1)))) : List (Option (Option Nat))).set 1 (some (some (ad 40)))))))) 48 (.inr (.inl (1, (((((((((([some none, some none, some none, some none, some none, none, none, none, none, none, none, none] : List (Option (Option Nat))).set 3 (some (some (u 49)))) : List (Option (Option Nat))).set 4 (some (some (u 50)))) : List (Option (Option Nat))).set 0 (some (some (ad 1)))) : List (Option (Option Nat))).set 1 (some (some (ad 40)))) : List (Option (Option Nat))).set 2 (some (some (ad 43))))))))
def M_LW_init (M : em_M) : em_M := M
abbrev rm_LW_init : Room := { frames := 1, cells := 2, slots := 24, locals := 20 }
set_option maxHeartbeats 8000000 in
set_option maxRecDepth 100000 in
theorem c_LW_init {l : Launch} {D : va_G} {b0 : Nat} {cT : Nat → ClassId} {ad : Nat → Nat} {sh : Nat → em_Sh} {M : em_M} (hs : sh 48 = .inr (.inl (1, [some none, some none, some none, some none, some none, none, none, none, none, none, none, none]))) (hM : ∀ j, 49 ≤ j → M j = fun _ => 0) : Met l y_LW_init (.code y_LW_init b_LW_init 4 none :: wAll) rm_LW_init (va_Pc [.ref (ad 48), .ref (ad 1), .ref (ad 40), .ref (ad 43)] (em_U D b0 cT ad sh 49 M)) (va_Qv (fun _ : Nat → Nat => True) (fun u t => em_U D b0 cT (ad_LW_init ad u) (sh_LW_init ad sh u) 51 (M_LW_init M) t) (em_A b0)) 2 24 (em_A b0) := by
  refine em_met (by decide) rfl (Nat.le_of_ble_eq_true rfl) (fun X C _ hnm hQ => ?_)
  refine g_aload_n C 0 0 d_LW_init_0 rfl rfl ?_
  refine g_objInit C d_LW_init_1 mw_143 mw_80 mw_81 (by decide) (Nat.le_of_ble_eq_true rfl) ?_
  refine g_aload_n C 0 0 d_LW_init_4 rfl rfl ?_
  refine g_bipush (v := 12) C d_LW_init_5 (by decide) ?_
  refine g_newa C 0 12 d_LW_init_7 mw_98 rfl (hM 49 (by decide)) (by decide) (by decide) (by decide) (by decide) (by decide) (fun q49 => ?_)
  refine g_putF C 48 3 rfl ty_LW tyok_LW nm_LW d_LW_init_9 (by decide) hs rfl (by decide) (Nat.le_of_ble_eq_true rfl) in_LW mw_147 rfl rfl hnm rfl rfl rfl rfl ?_
  refine g_aload_n C 0 0 d_LW_init_12 rfl rfl ?_
  refine g_bipush (v := 12) C d_LW_init_13 (by decide) ?_
  refine g_newa C 0 12 d_LW_init_15 mw_98 rfl (hM 50 (by decide)) (by decide) (by decide) (by decide) (by decide) (by decide) (fun q50 => ?_)
  refine g_putF C 48 4 rfl ty_LW tyok_LW nm_LW d_LW_init_17 (by decide) rfl rfl (by decide) (Nat.le_of_ble_eq_true rfl) in_LW mw_148 rfl rfl hnm rfl rfl rfl rfl ?_
  refine g_aload_n C 0 0 d_LW_init_20 rfl rfl ?_
  refine g_aload_n C 1 1 d_LW_init_21 rfl rfl ?_
  refine g_putF C 48 0 rfl ty_LW tyok_LW nm_LW d_LW_init_22 (by decide) rfl rfl (by decide) (Nat.le_of_ble_eq_true rfl) in_LW mw_144 rfl rfl hnm rfl rfl rfl rfl ?_
  refine g_aload_n C 0 0 d_LW_init_25 rfl rfl ?_
  refine g_aload_n C 2 2 d_LW_init_26 rfl rfl ?_
  refine g_putF C 48 1 rfl ty_LW tyok_LW nm_LW d_LW_init_27 (by decide) rfl rfl (by decide) (Nat.le_of_ble_eq_true rfl) in_LW mw_145 rfl rfl hnm rfl rfl rfl rfl ?_
  refine g_aload_n C 0 0 d_LW_init_30 rfl rfl ?_
  refine g_aload_n C 3 3 d_LW_init_31 rfl rfl ?_
  refine g_putF C 48 2 rfl ty_LW tyok_LW nm_LW d_LW_init_32 (by decide) rfl rfl (by decide) (Nat.le_of_ble_eq_true rfl) in_LW mw_146 rfl rfl hnm rfl rfl rfl rfl ?_
  exact g_vretC C (fun j => if j = 49 then q49 else if j = 50 then q50 else 0) hQ rfl d_LW_init_35 trivial (fun k _ => ⟨rfl, rfl, rfl⟩)
def ad_KS_init (ad u : Nat → Nat) : Nat → Nat := ad
def sh_KS_init (ad : Nat → Nat) (sh : Nat → em_Sh) (u : Nat → Nat) : Nat → em_Sh := (va_up (va_up (va_up sh 51 (.inr (.inl (0, (([some none, some none, some none, none, none] : List (Option (Option Nat))).set 0 (some (some (ad 1)))))))) 51 (.inr (.inl (0, (((([some none, some none, some none, none, none] : List (Option (Option Nat))).set 0 (some (some (ad 1)))) : List (Option (Option Nat))).set 1 (some (some (ad 40)))))))) 51 (.inr (.inl (0, (((((([some none, some none, some none, none, none] : List (Option (Option Nat))).set 0 (some (some (ad 1)))) : List (Option (Option Nat))).set 1 (some (some (ad 40)))) : List (Option (Option Nat))).set 2 (some (some (ad 43))))))))
def M_KS_init (M : em_M) : em_M := M
abbrev rm_KS_init : Room := { frames := 1, cells := 0, slots := 0, locals := 20 }
set_option maxHeartbeats 8000000 in
set_option maxRecDepth 100000 in
theorem c_KS_init {l : Launch} {D : va_G} {b0 : Nat} {cT : Nat → ClassId} {ad : Nat → Nat} {sh : Nat → em_Sh} {M : em_M} (hs : sh 51 = .inr (.inl (0, [some none, some none, some none, none, none]))) (hM : ∀ j, 52 ≤ j → M j = fun _ => 0) : Met l y_KS_init (.code y_KS_init b_KS_init 4 none :: wAll) rm_KS_init (va_Pc [.ref (ad 51), .ref (ad 1), .ref (ad 40), .ref (ad 43)] (em_U D b0 cT ad sh 52 M)) (va_Qv (fun _ : Nat → Nat => True) (fun u t => em_U D b0 cT (ad_KS_init ad u) (sh_KS_init ad sh u) 52 (M_KS_init M) t) (em_A b0)) 0 0 (em_A b0) := by
  refine em_met (by decide) rfl (Nat.le_of_ble_eq_true rfl) (fun X C _ hnm hQ => ?_)
  refine g_aload_n C 0 0 d_KS_init_0 rfl rfl ?_
  refine g_objInit C d_KS_init_1 mw_172 mw_80 mw_81 (by decide) (Nat.le_of_ble_eq_true rfl) ?_
  refine g_aload_n C 0 0 d_KS_init_4 rfl rfl ?_
  refine g_aload_n C 1 1 d_KS_init_5 rfl rfl ?_
  refine g_putF C 51 0 rfl ty_KS tyok_KS nm_KS d_KS_init_6 (by decide) hs rfl (by decide) (Nat.le_of_ble_eq_true rfl) in_KS mw_173 rfl rfl hnm rfl rfl rfl rfl ?_
  refine g_aload_n C 0 0 d_KS_init_9 rfl rfl ?_
  refine g_aload_n C 2 2 d_KS_init_10 rfl rfl ?_
  refine g_putF C 51 1 rfl ty_KS tyok_KS nm_KS d_KS_init_11 (by decide) rfl rfl (by decide) (Nat.le_of_ble_eq_true rfl) in_KS mw_174 rfl rfl hnm rfl rfl rfl rfl ?_
  refine g_aload_n C 0 0 d_KS_init_14 rfl rfl ?_
  refine g_aload_n C 3 3 d_KS_init_15 rfl rfl ?_
  refine g_putF C 51 2 rfl ty_KS tyok_KS nm_KS d_KS_init_16 (by decide) rfl rfl (by decide) (Nat.le_of_ble_eq_true rfl) in_KS mw_175 rfl rfl hnm rfl rfl rfl rfl ?_
  exact g_vretC C (fun j => 0) hQ rfl d_KS_init_19 trivial (fun k _ => ⟨rfl, rfl, rfl⟩)
def ad_BE_init (ad u : Nat → Nat) : Nat → Nat := (ad_KS_init (va_up (ad_LW_init (va_up (ad_RK_init (va_up (ad_QU_init (va_up (ad_SF_init (va_up ad 1 (u 1)) u) 40 (u 40)) u) 43 (u 43)) u) 48 (u 48)) u) 51 (u 51)) u)
def sh_BE_init (ad : Nat → Nat) (sh : Nat → em_Sh) (u : Nat → Nat) : Nat → em_Sh := (va_up (sh_KS_init (va_up (ad_LW_init (va_up (ad_RK_init (va_up (ad_QU_init (va_up (ad_SF_init (va_up ad 1 (u 1)) u) 40 (u 40)) u) 43 (u 43)) u) 48 (u 48)) u) 51 (u 51)) (va_up (va_up (sh_LW_init (va_up (ad_RK_init (va_up (ad_QU_init (va_up (ad_SF_init (va_up ad 1 (u 1)) u) 40 (u 40)) u) 43 (u 43)) u) 48 (u 48)) (va_up (va_up (va_up (va_up (sh_RK_init (va_up (ad_QU_init (va_up (ad_SF_init (va_up ad 1 (u 1)) u) 40 (u 40)) u) 43 (u 43)) (va_up (sh_QU_init (va_up (ad_SF_init (va_up ad 1 (u 1)) u) 40 (u 40)) (va_up (sh_SF_init (va_up ad 1 (u 1)) (va_up sh 1 (.inr (.inl (5, [some none, some none])))) u) 40 (.inr (.inl (2, [some none, some none, some none, none, none, none, none])))) u) 43 (.inr (.inl (3, [some none, some none, some none, some none, none, none])))) u) 0 (.inr (.inl (6, (([some none, some none, some none, some none, some none, none, none] : List (Option (Option Nat))).set 0 (some (some (u 1)))))))) 0 (.inr (.inl (6, (((([some none, some none, some none, some none, some none, none, none] : List (Option (Option Nat))).set 0 (some (some (u 1)))) : List (Option (Option Nat))).set 1 (some (some (u 40)))))))) 0 (.inr (.inl (6, (((((([some none, some none, some none, some none, some none, none, none] : List (Option (Option Nat))).set 0 (some (some (u 1)))) : List (Option (Option Nat))).set 1 (some (some (u 40)))) : List (Option (Option Nat))).set 2 (some (some (u 43)))))))) 48 (.inr (.inl (1, [some none, some none, some none, some none, some none, none, none, none, none, none, none, none])))) u) 0 (.inr (.inl (6, (((((((([some none, some none, some none, some none, some none, none, none] : List (Option (Option Nat))).set 0 (some (some (u 1)))) : List (Option (Option Nat))).set 1 (some (some (u 40)))) : List (Option (Option Nat))).set 2 (some (some (u 43)))) : List (Option (Option Nat))).set 3 (some (some (u 48)))))))) 51 (.inr (.inl (0, [some none, some none, some none, none, none])))) u) 0 (.inr (.inl (6, (((((((((([some none, some none, some none, some none, some none, none, none] : List (Option (Option Nat))).set 0 (some (some (u 1)))) : List (Option (Option Nat))).set 1 (some (some (u 40)))) : List (Option (Option Nat))).set 2 (some (some (u 43)))) : List (Option (Option Nat))).set 3 (some (some (u 48)))) : List (Option (Option Nat))).set 4 (some (some (u 51))))))))
def M_BE_init (M : em_M) : em_M := (M_QU_init M)
abbrev rm_BE_init : Room := { frames := 3, cells := 51, slots := 8304, locals := 61 }
set_option maxHeartbeats 8000000 in
set_option maxRecDepth 100000 in
theorem c_BE_init {l : Launch} {D : va_G} {b0 : Nat} {cT : Nat → ClassId} {ad : Nat → Nat} {sh : Nat → em_Sh} {M : em_M} (hs : sh 0 = .inr (.inl (6, [some none, some none, some none, some none, some none, none, none]))) (hM : ∀ j, 1 ≤ j → M j = fun _ => 0) : Met l y_BE_init (.code y_BE_init b_BE_init 4 none :: wAll) rm_BE_init (va_Pc [.ref (ad 0)] (em_U D b0 cT ad sh 1 M)) (va_Qv (fun _ : Nat → Nat => True) (fun u t => em_U D b0 cT (ad_BE_init ad u) (sh_BE_init ad sh u) 52 (M_BE_init M) t) (em_A b0)) 51 8304 (em_A b0) := by
  refine em_met (by decide) rfl (Nat.le_of_ble_eq_true rfl) (fun X C _ hnm hQ => ?_)
  refine g_aload_n C 0 0 d_BE_init_0 rfl rfl ?_
  refine g_objInit C d_BE_init_1 mw_79 mw_80 mw_81 (by decide) (Nat.le_of_ble_eq_true rfl) ?_
  refine g_new (ci := 5) C [some none, some none] ty_SF tyok_SF d_BE_init_4 in_SF mw_82 mw_83 mw_65 rfl (hM 1 (by decide)) (fun j hj => by rcases (show j = 0 ∨ j = 1 by omega) with rfl | rfl <;> rfl) (by decide) (by decide) (fun q1 => ?_)
  refine g_dup C d_BE_init_7 rfl ?_
  refine g_callIN C [] [.ref q1] (c_SF_init (ad := (va_up ad 1 q1)) (sh := (va_up sh 1 (.inr (.inl (5, [some none, some none]))))) (M := M) rfl (fun j hj => hM j (Nat.le_trans (by decide) hj))) (em_cnB C 0 mn_34 mw_65 mw_85 rfl rfl (by decide +kernel) (by decide)) rfl mw_84 rfl rfl (Nat.le_of_ble_eq_true rfl) d_BE_init_8 (by decide) (fun u1 _ => ?_)
  refine g_astore_n (lv' := [(1, .ref q1), (0, .ref (ad 0))]) C 1 d_BE_init_11 rfl (by decide) rfl ?_
  refine g_new (ci := 2) C [some none, some none, some none, none, none, none, none] ty_QU tyok_QU d_BE_init_12 in_QU mw_103 mw_104 mw_67 rfl (hM 40 (by decide)) (fun j hj => by rcases (show j = 0 ∨ j = 1 ∨ j = 2 ∨ j = 3 ∨ j = 4 ∨ j = 5 ∨ j = 6 by omega) with rfl | rfl | rfl | rfl | rfl | rfl | rfl <;> rfl) (by decide) (by decide) (fun q40 => ?_)
  refine g_dup C d_BE_init_15 rfl ?_
  refine g_aload_n C 0 1 d_BE_init_16 rfl rfl ?_
  refine g_callIN C [.ref q1] [.ref q40] (c_QU_init (ad := (va_up (ad_SF_init (va_up ad 1 q1) u1) 40 q40)) (sh := (va_up (sh_SF_init (va_up ad 1 q1) (va_up sh 1 (.inr (.inl (5, [some none, some none])))) u1) 40 (.inr (.inl (2, [some none, some none, some none, none, none, none, none]))))) (M := M) rfl (fun j hj => hM j (Nat.le_trans (by decide) hj))) (em_cnB C 1 mn_36 mw_67 mw_106 rfl rfl (by decide +kernel) (by decide)) rfl mw_105 rfl rfl (Nat.le_of_ble_eq_true rfl) d_BE_init_17 (by decide) (fun u40 _ => ?_)
  refine g_astore_n (lv' := [(2, .ref q40), (1, .ref q1), (0, .ref (ad 0))]) C 2 d_BE_init_20 rfl (by decide) rfl ?_
  refine g_new (ci := 3) C [some none, some none, some none, some none, none, none] ty_RK tyok_RK d_BE_init_21 in_RK mw_122 mw_123 mw_68 rfl ((hM_QU_init (fun j hj => hM j (Nat.le_trans (by decide) hj))) 43 (by decide)) (fun j hj => by rcases (show j = 0 ∨ j = 1 ∨ j = 2 ∨ j = 3 ∨ j = 4 ∨ j = 5 by omega) with rfl | rfl | rfl | rfl | rfl | rfl <;> rfl) (by decide) (by decide) (fun q43 => ?_)
  refine g_dup C d_BE_init_24 rfl ?_
  refine g_callIN C [] [.ref q43] (c_RK_init (ad := (va_up (ad_QU_init (va_up (ad_SF_init (va_up ad 1 q1) u1) 40 q40) u40) 43 q43)) (sh := (va_up (sh_QU_init (va_up (ad_SF_init (va_up ad 1 q1) u1) 40 q40) (va_up (sh_SF_init (va_up ad 1 q1) (va_up sh 1 (.inr (.inl (5, [some none, some none])))) u1) 40 (.inr (.inl (2, [some none, some none, some none, none, none, none, none])))) u40) 43 (.inr (.inl (3, [some none, some none, some none, some none, none, none]))))) (M := (M_QU_init M)) rfl (fun j hj => (hM_QU_init (fun j hj => hM j (Nat.le_trans (by decide) hj))) j (Nat.le_trans (by decide) hj))) (em_cnB C 0 mn_37 mw_68 mw_125 rfl rfl (by decide +kernel) (by decide)) rfl mw_124 rfl rfl (Nat.le_of_ble_eq_true rfl) d_BE_init_25 (by decide) (fun u43 _ => ?_)
  refine g_astore_n (lv' := [(3, .ref q43), (2, .ref q40), (1, .ref q1), (0, .ref (ad 0))]) C 3 d_BE_init_28 rfl (by decide) rfl ?_
  refine g_aload_n C 3 0 d_BE_init_29 rfl rfl ?_
  refine g_aload_n C 2 1 d_BE_init_30 rfl rfl ?_
  refine g_putF C 0 0 rfl ty_BE tyok_BE nm_BE d_BE_init_31 (by decide) hs rfl (by decide) (Nat.le_of_ble_eq_true rfl) in_BE mw_183 rfl rfl hnm rfl rfl rfl rfl ?_
  refine g_aload_n C 3 0 d_BE_init_34 rfl rfl ?_
  refine g_aload_n C 1 2 d_BE_init_35 rfl rfl ?_
  refine g_putF C 0 1 rfl ty_BE tyok_BE nm_BE d_BE_init_36 (by decide) rfl rfl (by decide) (Nat.le_of_ble_eq_true rfl) in_BE mw_184 rfl rfl hnm rfl rfl rfl rfl ?_
  refine g_aload_n C 3 0 d_BE_init_39 rfl rfl ?_
  refine g_aload_n C 0 3 d_BE_init_40 rfl rfl ?_
  refine g_putF C 0 2 rfl ty_BE tyok_BE nm_BE d_BE_init_41 (by decide) rfl rfl (by decide) (Nat.le_of_ble_eq_true rfl) in_BE mw_185 rfl rfl hnm rfl rfl rfl rfl ?_
  refine g_aload_n C 3 0 d_BE_init_44 rfl rfl ?_
  refine g_new (ci := 1) C [some none, some none, some none, some none, some none, none, none, none, none, none, none, none] ty_LW tyok_LW d_BE_init_45 in_LW mw_139 mw_140 mw_69 rfl ((hM_QU_init (fun j hj => hM j (Nat.le_trans (by decide) hj))) 48 (by decide)) (fun j hj => by rcases (show j = 0 ∨ j = 1 ∨ j = 2 ∨ j = 3 ∨ j = 4 ∨ j = 5 ∨ j = 6 ∨ j = 7 ∨ j = 8 ∨ j = 9 ∨ j = 10 ∨ j = 11 by omega) with rfl | rfl | rfl | rfl | rfl | rfl | rfl | rfl | rfl | rfl | rfl | rfl <;> rfl) (by decide) (by decide) (fun q48 => ?_)
  refine g_dup C d_BE_init_48 rfl ?_
  refine g_aload_n C 2 1 d_BE_init_49 rfl rfl ?_
  refine g_aload_n C 1 2 d_BE_init_50 rfl rfl ?_
  refine g_aload_n C 0 3 d_BE_init_51 rfl rfl ?_
  refine g_callIN C [.ref q1, .ref q40, .ref q43] [.ref q48, .ref (ad 0)] (c_LW_init (ad := (va_up (ad_RK_init (va_up (ad_QU_init (va_up (ad_SF_init (va_up ad 1 q1) u1) 40 q40) u40) 43 q43) u43) 48 q48)) (sh := (va_up (va_up (va_up (va_up (sh_RK_init (va_up (ad_QU_init (va_up (ad_SF_init (va_up ad 1 q1) u1) 40 q40) u40) 43 q43) (va_up (sh_QU_init (va_up (ad_SF_init (va_up ad 1 q1) u1) 40 q40) (va_up (sh_SF_init (va_up ad 1 q1) (va_up sh 1 (.inr (.inl (5, [some none, some none])))) u1) 40 (.inr (.inl (2, [some none, some none, some none, none, none, none, none])))) u40) 43 (.inr (.inl (3, [some none, some none, some none, some none, none, none])))) u43) 0 (.inr (.inl (6, (([some none, some none, some none, some none, some none, none, none] : List (Option (Option Nat))).set 0 (some (some q1))))))) 0 (.inr (.inl (6, (((([some none, some none, some none, some none, some none, none, none] : List (Option (Option Nat))).set 0 (some (some q1))) : List (Option (Option Nat))).set 1 (some (some q40))))))) 0 (.inr (.inl (6, (((((([some none, some none, some none, some none, some none, none, none] : List (Option (Option Nat))).set 0 (some (some q1))) : List (Option (Option Nat))).set 1 (some (some q40))) : List (Option (Option Nat))).set 2 (some (some q43))))))) 48 (.inr (.inl (1, [some none, some none, some none, some none, some none, none, none, none, none, none, none, none]))))) (M := (M_QU_init M)) rfl (fun j hj => (hM_QU_init (fun j hj => hM j (Nat.le_trans (by decide) hj))) j (Nat.le_trans (by decide) hj))) (em_cnB C 3 mn_38 mw_69 mw_142 rfl rfl (by decide +kernel) (by decide)) rfl mw_141 rfl rfl (Nat.le_of_ble_eq_true rfl) d_BE_init_52 (by decide) (fun u48 _ => ?_)
  refine g_putF C 0 3 rfl ty_BE tyok_BE nm_BE d_BE_init_55 (by decide) rfl rfl (by decide) (Nat.le_of_ble_eq_true rfl) in_BE mw_186 rfl rfl hnm rfl rfl rfl rfl ?_
  refine g_aload_n C 3 0 d_BE_init_58 rfl rfl ?_
  refine g_new (ci := 0) C [some none, some none, some none, none, none] ty_KS tyok_KS d_BE_init_59 in_KS mw_168 mw_169 mw_70 rfl ((hM_QU_init (fun j hj => hM j (Nat.le_trans (by decide) hj))) 51 (by decide)) (fun j hj => by rcases (show j = 0 ∨ j = 1 ∨ j = 2 ∨ j = 3 ∨ j = 4 by omega) with rfl | rfl | rfl | rfl | rfl <;> rfl) (by decide) (by decide) (fun q51 => ?_)
  refine g_dup C d_BE_init_62 rfl ?_
  refine g_aload_n C 2 1 d_BE_init_63 rfl rfl ?_
  refine g_aload_n C 1 2 d_BE_init_64 rfl rfl ?_
  refine g_aload_n C 0 3 d_BE_init_65 rfl rfl ?_
  refine g_callIN C [.ref q1, .ref q40, .ref q43] [.ref q51, .ref (ad 0)] (c_KS_init (ad := (va_up (ad_LW_init (va_up (ad_RK_init (va_up (ad_QU_init (va_up (ad_SF_init (va_up ad 1 q1) u1) 40 q40) u40) 43 q43) u43) 48 q48) u48) 51 q51)) (sh := (va_up (va_up (sh_LW_init (va_up (ad_RK_init (va_up (ad_QU_init (va_up (ad_SF_init (va_up ad 1 q1) u1) 40 q40) u40) 43 q43) u43) 48 q48) (va_up (va_up (va_up (va_up (sh_RK_init (va_up (ad_QU_init (va_up (ad_SF_init (va_up ad 1 q1) u1) 40 q40) u40) 43 q43) (va_up (sh_QU_init (va_up (ad_SF_init (va_up ad 1 q1) u1) 40 q40) (va_up (sh_SF_init (va_up ad 1 q1) (va_up sh 1 (.inr (.inl (5, [some none, some none])))) u1) 40 (.inr (.inl (2, [some none, some none, some none, none, none, none, none])))) u40) 43 (.inr (.inl (3, [some none, some none, some none, some none, none, none])))) u43) 0 (.inr (.inl (6, (([some none, some none, some none, some none, some none, none, none] : List (Option (Option Nat))).set 0 (some (some q1))))))) 0 (.inr (.inl (6, (((([some none, some none, some none, some none, some none, none, none] : List (Option (Option Nat))).set 0 (some (some q1))) : List (Option (Option Nat))).set 1 (some (some q40))))))) 0 (.inr (.inl (6, (((((([some none, some none, some none, some none, some none, none, none] : List (Option (Option Nat))).set 0 (some (some q1))) : List (Option (Option Nat))).set 1 (some (some q40))) : List (Option (Option Nat))).set 2 (some (some q43))))))) 48 (.inr (.inl (1, [some none, some none, some none, some none, some none, none, none, none, none, none, none, none])))) u48) 0 (.inr (.inl (6, (((((((([some none, some none, some none, some none, some none, none, none] : List (Option (Option Nat))).set 0 (some (some q1))) : List (Option (Option Nat))).set 1 (some (some q40))) : List (Option (Option Nat))).set 2 (some (some q43))) : List (Option (Option Nat))).set 3 (some (some q48))))))) 51 (.inr (.inl (0, [some none, some none, some none, none, none]))))) (M := (M_QU_init M)) rfl (fun j hj => (hM_QU_init (fun j hj => hM j (Nat.le_trans (by decide) hj))) j (Nat.le_trans (by decide) hj))) (em_cnB C 3 mn_39 mw_70 mw_171 rfl rfl (by decide +kernel) (by decide)) rfl mw_170 rfl rfl (Nat.le_of_ble_eq_true rfl) d_BE_init_66 (by decide) (fun u51 _ => ?_)
  refine g_putF C 0 4 rfl ty_BE tyok_BE nm_BE d_BE_init_69 (by decide) rfl rfl (by decide) (Nat.le_of_ble_eq_true rfl) in_BE mw_187 rfl rfl hnm rfl rfl rfl rfl ?_
  exact g_vretC C (fun j => if j = 1 then q1 else if j = 2 then (u1 2) else if j = 3 then (u1 3) else if j = 4 then (u1 4) else if j = 5 then (u1 5) else if j = 6 then (u1 6) else if j = 7 then (u1 7) else if j = 8 then (u1 8) else if j = 9 then (u1 9) else if j = 10 then (u1 10) else if j = 11 then (u1 11) else if j = 12 then (u1 12) else if j = 13 then (u1 13) else if j = 14 then (u1 14) else if j = 15 then (u1 15) else if j = 16 then (u1 16) else if j = 17 then (u1 17) else if j = 18 then (u1 18) else if j = 19 then (u1 19) else if j = 20 then (u1 20) else if j = 21 then (u1 21) else if j = 22 then (u1 22) else if j = 23 then (u1 23) else if j = 24 then (u1 24) else if j = 25 then (u1 25) else if j = 26 then (u1 26) else if j = 27 then (u1 27) else if j = 28 then (u1 28) else if j = 29 then (u1 29) else if j = 30 then (u1 30) else if j = 31 then (u1 31) else if j = 32 then (u1 32) else if j = 33 then (u1 33) else if j = 34 then (u1 34) else if j = 35 then (u1 35) else if j = 36 then (u1 36) else if j = 37 then (u1 37) else if j = 38 then (u1 38) else if j = 39 then (u1 39) else if j = 40 then q40 else if j = 41 then (u40 41) else if j = 42 then (u40 42) else if j = 43 then q43 else if j = 44 then (u43 44) else if j = 45 then (u43 45) else if j = 46 then (u43 46) else if j = 47 then (u43 47) else if j = 48 then q48 else if j = 49 then (u48 49) else if j = 50 then (u48 50) else if j = 51 then q51 else 0) hQ rfl d_BE_init_72 trivial (fun k _ => ⟨rfl, rfl, rfl⟩)
def ad_MD_init (ad u : Nat → Nat) : Nat → Nat := (va_up (va_up (va_up (va_up (va_up (va_up (va_up (va_up (va_up ad 53 (u 53)) 54 (u 54)) 55 (u 55)) 56 (u 56)) 57 (u 57)) 58 (u 58)) 59 (u 59)) 60 (u 60)) 61 (u 61))
def sh_MD_init (ad : Nat → Nat) (sh : Nat → em_Sh) (u : Nat → Nat) : Nat → em_Sh := (va_up (va_up (va_up (va_up (va_up (va_up (va_up (va_up (va_up (va_up (va_up (va_up (va_up (va_up (va_up (va_up (va_up (va_up sh 53 (.inl (0, 6144))) 52 (.inr (.inl (7, (([none, some none, some none, some none, some none, none, none, none, none, none, none, some none, some none, some none, some none, some none, none, none, none, none, none, none, none, none, none] : List (Option (Option Nat))).set 1 (some (some (u 53)))))))) 54 (.inl (0, 512))) 52 (.inr (.inl (7, (((([none, some none, some none, some none, some none, none, none, none, none, none, none, some none, some none, some none, some none, some none, none, none, none, none, none, none, none, none, none] : List (Option (Option Nat))).set 1 (some (some (u 53)))) : List (Option (Option Nat))).set 2 (some (some (u 54)))))))) 55 (.inl (0, 12))) 52 (.inr (.inl (7, (((((([none, some none, some none, some none, some none, none, none, none, none, none, none, some none, some none, some none, some none, some none, none, none, none, none, none, none, none, none, none] : List (Option (Option Nat))).set 1 (some (some (u 53)))) : List (Option (Option Nat))).set 2 (some (some (u 54)))) : List (Option (Option Nat))).set 3 (some (some (u 55)))))))) 56 (.inl (0, 12))) 52 (.inr (.inl (7, (((((((([none, some none, some none, some none, some none, none, none, none, none, none, none, some none, some none, some none, some none, some none, none, none, none, none, none, none, none, none, none] : List (Option (Option Nat))).set 1 (some (some (u 53)))) : List (Option (Option Nat))).set 2 (some (some (u 54)))) : List (Option (Option Nat))).set 3 (some (some (u 55)))) : List (Option (Option Nat))).set 4 (some (some (u 56)))))))) 57 (.inl (0, 21))) 52 (.inr (.inl (7, (((((((((([none, some none, some none, some none, some none, none, none, none, none, none, none, some none, some none, some none, some none, some none, none, none, none, none, none, none, none, none, none] : List (Option (Option Nat))).set 1 (some (some (u 53)))) : List (Option (Option Nat))).set 2 (some (some (u 54)))) : List (Option (Option Nat))).set 3 (some (some (u 55)))) : List (Option (Option Nat))).set 4 (some (some (u 56)))) : List (Option (Option Nat))).set 11 (some (some (u 57)))))))) 58 (.inl (0, 21))) 52 (.inr (.inl (7, (((((((((((([none, some none, some none, some none, some none, none, none, none, none, none, none, some none, some none, some none, some none, some none, none, none, none, none, none, none, none, none, none] : List (Option (Option Nat))).set 1 (some (some (u 53)))) : List (Option (Option Nat))).set 2 (some (some (u 54)))) : List (Option (Option Nat))).set 3 (some (some (u 55)))) : List (Option (Option Nat))).set 4 (some (some (u 56)))) : List (Option (Option Nat))).set 11 (some (some (u 57)))) : List (Option (Option Nat))).set 12 (some (some (u 58)))))))) 59 (.inl (0, 21))) 52 (.inr (.inl (7, (((((((((((((([none, some none, some none, some none, some none, none, none, none, none, none, none, some none, some none, some none, some none, some none, none, none, none, none, none, none, none, none, none] : List (Option (Option Nat))).set 1 (some (some (u 53)))) : List (Option (Option Nat))).set 2 (some (some (u 54)))) : List (Option (Option Nat))).set 3 (some (some (u 55)))) : List (Option (Option Nat))).set 4 (some (some (u 56)))) : List (Option (Option Nat))).set 11 (some (some (u 57)))) : List (Option (Option Nat))).set 12 (some (some (u 58)))) : List (Option (Option Nat))).set 13 (some (some (u 59)))))))) 60 (.inl (0, 21))) 52 (.inr (.inl (7, (((((((((((((((([none, some none, some none, some none, some none, none, none, none, none, none, none, some none, some none, some none, some none, some none, none, none, none, none, none, none, none, none, none] : List (Option (Option Nat))).set 1 (some (some (u 53)))) : List (Option (Option Nat))).set 2 (some (some (u 54)))) : List (Option (Option Nat))).set 3 (some (some (u 55)))) : List (Option (Option Nat))).set 4 (some (some (u 56)))) : List (Option (Option Nat))).set 11 (some (some (u 57)))) : List (Option (Option Nat))).set 12 (some (some (u 58)))) : List (Option (Option Nat))).set 13 (some (some (u 59)))) : List (Option (Option Nat))).set 14 (some (some (u 60)))))))) 61 (.inl (0, 12))) 52 (.inr (.inl (7, (((((((((((((((((([none, some none, some none, some none, some none, none, none, none, none, none, none, some none, some none, some none, some none, some none, none, none, none, none, none, none, none, none, none] : List (Option (Option Nat))).set 1 (some (some (u 53)))) : List (Option (Option Nat))).set 2 (some (some (u 54)))) : List (Option (Option Nat))).set 3 (some (some (u 55)))) : List (Option (Option Nat))).set 4 (some (some (u 56)))) : List (Option (Option Nat))).set 11 (some (some (u 57)))) : List (Option (Option Nat))).set 12 (some (some (u 58)))) : List (Option (Option Nat))).set 13 (some (some (u 59)))) : List (Option (Option Nat))).set 14 (some (some (u 60)))) : List (Option (Option Nat))).set 15 (some (some (u 61))))))))
def M_MD_init (M : em_M) : em_M := (em_up (em_up (em_up (em_up (em_up (em_up (em_up (em_up (em_up (em_up (em_up (em_up (em_up (em_up (em_up M 52 5 (10 : Int32)) 52 6 (-1 : Int32)) 52 0 (0 : Int32)) 56 (0 : Int32).toNatClampNeg (1 : Int32)) 56 (1 : Int32).toNatClampNeg (1 : Int32)) 56 (2 : Int32).toNatClampNeg (1 : Int32)) 56 (3 : Int32).toNatClampNeg (1 : Int32)) 56 (4 : Int32).toNatClampNeg (1 : Int32)) 56 (5 : Int32).toNatClampNeg (1 : Int32)) 56 (6 : Int32).toNatClampNeg (1 : Int32)) 56 (7 : Int32).toNatClampNeg (1 : Int32)) 56 (8 : Int32).toNatClampNeg (1 : Int32)) 56 (9 : Int32).toNatClampNeg (1 : Int32)) 56 (10 : Int32).toNatClampNeg (1 : Int32)) 56 (11 : Int32).toNatClampNeg (1 : Int32))
theorem hM_MD_init {M : em_M} (hM : ∀ j, 62 ≤ j → M j = fun _ => 0) : ∀ j, 62 ≤ j → M_MD_init M j = fun _ => 0 := by
  intro j hj
  unfold M_MD_init
  repeat rw [em_up_ne (by omega)]
  exact hM j hj
abbrev rm_MD_init : Room := { frames := 1, cells := 9, slots := 6776, locals := 20 }
set_option maxHeartbeats 8000000 in
set_option maxRecDepth 100000 in
theorem c_MD_init {l : Launch} {D : va_G} {b0 : Nat} {cT : Nat → ClassId} {ad : Nat → Nat} {sh : Nat → em_Sh} {M : em_M} (hs : sh 52 = .inr (.inl (7, [none, some none, some none, some none, some none, none, none, none, none, none, none, some none, some none, some none, some none, some none, none, none, none, none, none, none, none, none, none]))) (hM : ∀ j, 53 ≤ j → M j = fun _ => 0) : Met l y_MD_init (.code y_MD_init b_MD_init 2 none :: wAll) rm_MD_init (va_Pc [.ref (ad 52)] (em_U D b0 cT ad sh 53 M)) (va_Qv (fun _ : Nat → Nat => True) (fun u t => em_U D b0 cT (ad_MD_init ad u) (sh_MD_init ad sh u) 62 (M_MD_init M) t) (em_A b0)) 9 6776 (em_A b0) := by
  refine em_met (by decide) rfl (Nat.le_of_ble_eq_true rfl) (fun X C _ hnm hQ => ?_)
  refine g_aload_n C 0 0 d_MD_init_0 rfl rfl ?_
  refine g_objInit C d_MD_init_1 mw_398 mw_80 mw_81 (by decide) (Nat.le_of_ble_eq_true rfl) ?_
  refine g_aload_n C 0 0 d_MD_init_4 rfl rfl ?_
  refine g_sipush (v := 6144) C d_MD_init_5 (by decide) ?_
  refine g_newa C 0 6144 d_MD_init_8 mw_98 rfl (hM 53 (by decide)) (by decide) (by decide) (by decide) (by decide) (by decide) (fun q53 => ?_)
  refine g_putF C 52 1 rfl ty_MD tyok_MD nm_MD d_MD_init_10 (by decide) hs rfl (by decide) (Nat.le_of_ble_eq_true rfl) in_MD mw_400 rfl rfl hnm rfl rfl rfl rfl ?_
  refine g_aload_n C 0 0 d_MD_init_13 rfl rfl ?_
  refine g_sipush (v := 512) C d_MD_init_14 (by decide) ?_
  refine g_newa C 0 512 d_MD_init_17 mw_98 rfl (hM 54 (by decide)) (by decide) (by decide) (by decide) (by decide) (by decide) (fun q54 => ?_)
  refine g_putF C 52 2 rfl ty_MD tyok_MD nm_MD d_MD_init_19 (by decide) rfl rfl (by decide) (Nat.le_of_ble_eq_true rfl) in_MD mw_401 rfl rfl hnm rfl rfl rfl rfl ?_
  refine g_aload_n C 0 0 d_MD_init_22 rfl rfl ?_
  refine g_bipush (v := 12) C d_MD_init_23 (by decide) ?_
  refine g_newa C 0 12 d_MD_init_25 mw_98 rfl (hM 55 (by decide)) (by decide) (by decide) (by decide) (by decide) (by decide) (fun q55 => ?_)
  refine g_putF C 52 3 rfl ty_MD tyok_MD nm_MD d_MD_init_27 (by decide) rfl rfl (by decide) (Nat.le_of_ble_eq_true rfl) in_MD mw_402 rfl rfl hnm rfl rfl rfl rfl ?_
  refine g_aload_n C 0 0 d_MD_init_30 rfl rfl ?_
  refine g_bipush (v := 12) C d_MD_init_31 (by decide) ?_
  refine g_newa C 0 12 d_MD_init_33 mw_98 rfl (hM 56 (by decide)) (by decide) (by decide) (by decide) (by decide) (by decide) (fun q56 => ?_)
  refine g_putF C 52 4 rfl ty_MD tyok_MD nm_MD d_MD_init_35 (by decide) rfl rfl (by decide) (Nat.le_of_ble_eq_true rfl) in_MD mw_403 rfl rfl hnm rfl rfl rfl rfl ?_
  refine g_aload_n C 0 0 d_MD_init_38 rfl rfl ?_
  refine g_bipush (v := 10) C d_MD_init_39 (by decide) ?_
  refine g_puti C 52 5 rfl ty_MD tyok_MD nm_MD d_MD_init_41 (by decide) rfl rfl (by decide) rfl in_MD mw_404 rfl rfl rfl rfl rfl ?_
  refine g_aload_n C 0 0 d_MD_init_44 rfl rfl ?_
  refine g_iconst (v := -1) C d_MD_init_45 (by decide) ?_
  refine g_puti C 52 6 rfl ty_MD tyok_MD nm_MD d_MD_init_46 (by decide) rfl rfl (by decide) rfl in_MD mw_405 rfl rfl rfl rfl rfl ?_
  refine g_aload_n C 0 0 d_MD_init_49 rfl rfl ?_
  refine g_bipush (v := 21) C d_MD_init_50 (by decide) ?_
  refine g_newa C 0 21 d_MD_init_52 mw_98 rfl (hM 57 (by decide)) (by decide) (by decide) (by decide) (by decide) (by decide) (fun q57 => ?_)
  refine g_putF C 52 11 rfl ty_MD tyok_MD nm_MD d_MD_init_54 (by decide) rfl rfl (by decide) (Nat.le_of_ble_eq_true rfl) in_MD mw_410 rfl rfl hnm rfl rfl rfl rfl ?_
  refine g_aload_n C 0 0 d_MD_init_57 rfl rfl ?_
  refine g_bipush (v := 21) C d_MD_init_58 (by decide) ?_
  refine g_newa C 0 21 d_MD_init_60 mw_98 rfl (hM 58 (by decide)) (by decide) (by decide) (by decide) (by decide) (by decide) (fun q58 => ?_)
  refine g_putF C 52 12 rfl ty_MD tyok_MD nm_MD d_MD_init_62 (by decide) rfl rfl (by decide) (Nat.le_of_ble_eq_true rfl) in_MD mw_411 rfl rfl hnm rfl rfl rfl rfl ?_
  refine g_aload_n C 0 0 d_MD_init_65 rfl rfl ?_
  refine g_bipush (v := 21) C d_MD_init_66 (by decide) ?_
  refine g_newa C 0 21 d_MD_init_68 mw_98 rfl (hM 59 (by decide)) (by decide) (by decide) (by decide) (by decide) (by decide) (fun q59 => ?_)
  refine g_putF C 52 13 rfl ty_MD tyok_MD nm_MD d_MD_init_70 (by decide) rfl rfl (by decide) (Nat.le_of_ble_eq_true rfl) in_MD mw_412 rfl rfl hnm rfl rfl rfl rfl ?_
  refine g_aload_n C 0 0 d_MD_init_73 rfl rfl ?_
  refine g_bipush (v := 21) C d_MD_init_74 (by decide) ?_
  refine g_newa C 0 21 d_MD_init_76 mw_98 rfl (hM 60 (by decide)) (by decide) (by decide) (by decide) (by decide) (by decide) (fun q60 => ?_)
  refine g_putF C 52 14 rfl ty_MD tyok_MD nm_MD d_MD_init_78 (by decide) rfl rfl (by decide) (Nat.le_of_ble_eq_true rfl) in_MD mw_413 rfl rfl hnm rfl rfl rfl rfl ?_
  refine g_aload_n C 0 0 d_MD_init_81 rfl rfl ?_
  refine g_bipush (v := 12) C d_MD_init_82 (by decide) ?_
  refine g_newa C 0 12 d_MD_init_84 mw_98 rfl (hM 61 (by decide)) (by decide) (by decide) (by decide) (by decide) (by decide) (fun q61 => ?_)
  refine g_putF C 52 15 rfl ty_MD tyok_MD nm_MD d_MD_init_86 (by decide) rfl rfl (by decide) (Nat.le_of_ble_eq_true rfl) in_MD mw_414 rfl rfl hnm rfl rfl rfl rfl ?_
  refine g_aload_n C 0 0 d_MD_init_89 rfl rfl ?_
  refine g_iconst (v := 0) C d_MD_init_90 (by decide) ?_
  refine g_puti C 52 0 rfl ty_MD tyok_MD nm_MD d_MD_init_91 (by decide) rfl rfl (by decide) rfl in_MD mw_399 rfl rfl rfl rfl rfl ?_
  refine g_iconst (v := 0) C d_MD_init_94 (by decide) ?_
  refine g_istore_n (lv' := [(1, .int (0 : Int32)), (0, .ref (ad 52))]) C 1 d_MD_init_95 rfl (by decide) rfl ?_
  refine g_iload_n C 0 1 d_MD_init_96 rfl rfl ?_
  refine g_bipush (v := 12) C d_MD_init_97 (by decide) ?_
  refine g_icmp_ge (tgt := 115) C d_MD_init_99 (by decide) (fun h => absurd h (by decide)) (fun _ => ?_)
  refine g_aload_n C 1 0 d_MD_init_102 rfl rfl ?_
  refine g_getr C 52 4 rfl d_MD_init_103 (by decide) rfl rfl (by decide) rfl in_MD mw_403 rfl ?_
  refine g_iload_n C 0 1 d_MD_init_106 rfl rfl ?_
  refine g_iconst (v := 1) C d_MD_init_107 (by decide) ?_
  refine g_iast C 56 rfl d_MD_init_108 (by decide) rfl rfl (pk_in 0 12 (by decide)) ?_
  refine g_iinc (v := 1) (lv' := [(1, .int (1 : Int32)), (0, .ref (ad 52))]) C 0 d_MD_init_109 rfl (by decide) (by decide) rfl ?_
  refine g_goto (tgt := 96) C d_MD_init_112 (by decide) ?_
  refine g_iload_n C 0 1 d_MD_init_96 rfl rfl ?_
  refine g_bipush (v := 12) C d_MD_init_97 (by decide) ?_
  refine g_icmp_ge (tgt := 115) C d_MD_init_99 (by decide) (fun h => absurd h (by decide)) (fun _ => ?_)
  refine g_aload_n C 1 0 d_MD_init_102 rfl rfl ?_
  refine g_getr C 52 4 rfl d_MD_init_103 (by decide) rfl rfl (by decide) rfl in_MD mw_403 rfl ?_
  refine g_iload_n C 0 1 d_MD_init_106 rfl rfl ?_
  refine g_iconst (v := 1) C d_MD_init_107 (by decide) ?_
  refine g_iast C 56 rfl d_MD_init_108 (by decide) rfl rfl (pk_in 1 12 (by decide)) ?_
  refine g_iinc (v := 2) (lv' := [(1, .int (2 : Int32)), (0, .ref (ad 52))]) C 0 d_MD_init_109 rfl (by decide) (by decide) rfl ?_
  refine g_goto (tgt := 96) C d_MD_init_112 (by decide) ?_
  refine g_iload_n C 0 1 d_MD_init_96 rfl rfl ?_
  refine g_bipush (v := 12) C d_MD_init_97 (by decide) ?_
  refine g_icmp_ge (tgt := 115) C d_MD_init_99 (by decide) (fun h => absurd h (by decide)) (fun _ => ?_)
  refine g_aload_n C 1 0 d_MD_init_102 rfl rfl ?_
  refine g_getr C 52 4 rfl d_MD_init_103 (by decide) rfl rfl (by decide) rfl in_MD mw_403 rfl ?_
  refine g_iload_n C 0 1 d_MD_init_106 rfl rfl ?_
  refine g_iconst (v := 1) C d_MD_init_107 (by decide) ?_
  refine g_iast C 56 rfl d_MD_init_108 (by decide) rfl rfl (pk_in 2 12 (by decide)) ?_
  refine g_iinc (v := 3) (lv' := [(1, .int (3 : Int32)), (0, .ref (ad 52))]) C 0 d_MD_init_109 rfl (by decide) (by decide) rfl ?_
  refine g_goto (tgt := 96) C d_MD_init_112 (by decide) ?_
  refine g_iload_n C 0 1 d_MD_init_96 rfl rfl ?_
  refine g_bipush (v := 12) C d_MD_init_97 (by decide) ?_
  refine g_icmp_ge (tgt := 115) C d_MD_init_99 (by decide) (fun h => absurd h (by decide)) (fun _ => ?_)
  refine g_aload_n C 1 0 d_MD_init_102 rfl rfl ?_
  refine g_getr C 52 4 rfl d_MD_init_103 (by decide) rfl rfl (by decide) rfl in_MD mw_403 rfl ?_
  refine g_iload_n C 0 1 d_MD_init_106 rfl rfl ?_
  refine g_iconst (v := 1) C d_MD_init_107 (by decide) ?_
  refine g_iast C 56 rfl d_MD_init_108 (by decide) rfl rfl (pk_in 3 12 (by decide)) ?_
  refine g_iinc (v := 4) (lv' := [(1, .int (4 : Int32)), (0, .ref (ad 52))]) C 0 d_MD_init_109 rfl (by decide) (by decide) rfl ?_
  refine g_goto (tgt := 96) C d_MD_init_112 (by decide) ?_
  refine g_iload_n C 0 1 d_MD_init_96 rfl rfl ?_
  refine g_bipush (v := 12) C d_MD_init_97 (by decide) ?_
  refine g_icmp_ge (tgt := 115) C d_MD_init_99 (by decide) (fun h => absurd h (by decide)) (fun _ => ?_)
  refine g_aload_n C 1 0 d_MD_init_102 rfl rfl ?_
  refine g_getr C 52 4 rfl d_MD_init_103 (by decide) rfl rfl (by decide) rfl in_MD mw_403 rfl ?_
  refine g_iload_n C 0 1 d_MD_init_106 rfl rfl ?_
  refine g_iconst (v := 1) C d_MD_init_107 (by decide) ?_
  refine g_iast C 56 rfl d_MD_init_108 (by decide) rfl rfl (pk_in 4 12 (by decide)) ?_
  refine g_iinc (v := 5) (lv' := [(1, .int (5 : Int32)), (0, .ref (ad 52))]) C 0 d_MD_init_109 rfl (by decide) (by decide) rfl ?_
  refine g_goto (tgt := 96) C d_MD_init_112 (by decide) ?_
  refine g_iload_n C 0 1 d_MD_init_96 rfl rfl ?_
  refine g_bipush (v := 12) C d_MD_init_97 (by decide) ?_
  refine g_icmp_ge (tgt := 115) C d_MD_init_99 (by decide) (fun h => absurd h (by decide)) (fun _ => ?_)
  refine g_aload_n C 1 0 d_MD_init_102 rfl rfl ?_
  refine g_getr C 52 4 rfl d_MD_init_103 (by decide) rfl rfl (by decide) rfl in_MD mw_403 rfl ?_
  refine g_iload_n C 0 1 d_MD_init_106 rfl rfl ?_
  refine g_iconst (v := 1) C d_MD_init_107 (by decide) ?_
  refine g_iast C 56 rfl d_MD_init_108 (by decide) rfl rfl (pk_in 5 12 (by decide)) ?_
  refine g_iinc (v := 6) (lv' := [(1, .int (6 : Int32)), (0, .ref (ad 52))]) C 0 d_MD_init_109 rfl (by decide) (by decide) rfl ?_
  refine g_goto (tgt := 96) C d_MD_init_112 (by decide) ?_
  refine g_iload_n C 0 1 d_MD_init_96 rfl rfl ?_
  refine g_bipush (v := 12) C d_MD_init_97 (by decide) ?_
  refine g_icmp_ge (tgt := 115) C d_MD_init_99 (by decide) (fun h => absurd h (by decide)) (fun _ => ?_)
  refine g_aload_n C 1 0 d_MD_init_102 rfl rfl ?_
  refine g_getr C 52 4 rfl d_MD_init_103 (by decide) rfl rfl (by decide) rfl in_MD mw_403 rfl ?_
  refine g_iload_n C 0 1 d_MD_init_106 rfl rfl ?_
  refine g_iconst (v := 1) C d_MD_init_107 (by decide) ?_
  refine g_iast C 56 rfl d_MD_init_108 (by decide) rfl rfl (pk_in 6 12 (by decide)) ?_
  refine g_iinc (v := 7) (lv' := [(1, .int (7 : Int32)), (0, .ref (ad 52))]) C 0 d_MD_init_109 rfl (by decide) (by decide) rfl ?_
  refine g_goto (tgt := 96) C d_MD_init_112 (by decide) ?_
  refine g_iload_n C 0 1 d_MD_init_96 rfl rfl ?_
  refine g_bipush (v := 12) C d_MD_init_97 (by decide) ?_
  refine g_icmp_ge (tgt := 115) C d_MD_init_99 (by decide) (fun h => absurd h (by decide)) (fun _ => ?_)
  refine g_aload_n C 1 0 d_MD_init_102 rfl rfl ?_
  refine g_getr C 52 4 rfl d_MD_init_103 (by decide) rfl rfl (by decide) rfl in_MD mw_403 rfl ?_
  refine g_iload_n C 0 1 d_MD_init_106 rfl rfl ?_
  refine g_iconst (v := 1) C d_MD_init_107 (by decide) ?_
  refine g_iast C 56 rfl d_MD_init_108 (by decide) rfl rfl (pk_in 7 12 (by decide)) ?_
  refine g_iinc (v := 8) (lv' := [(1, .int (8 : Int32)), (0, .ref (ad 52))]) C 0 d_MD_init_109 rfl (by decide) (by decide) rfl ?_
  refine g_goto (tgt := 96) C d_MD_init_112 (by decide) ?_
  refine g_iload_n C 0 1 d_MD_init_96 rfl rfl ?_
  refine g_bipush (v := 12) C d_MD_init_97 (by decide) ?_
  refine g_icmp_ge (tgt := 115) C d_MD_init_99 (by decide) (fun h => absurd h (by decide)) (fun _ => ?_)
  refine g_aload_n C 1 0 d_MD_init_102 rfl rfl ?_
  refine g_getr C 52 4 rfl d_MD_init_103 (by decide) rfl rfl (by decide) rfl in_MD mw_403 rfl ?_
  refine g_iload_n C 0 1 d_MD_init_106 rfl rfl ?_
  refine g_iconst (v := 1) C d_MD_init_107 (by decide) ?_
  refine g_iast C 56 rfl d_MD_init_108 (by decide) rfl rfl (pk_in 8 12 (by decide)) ?_
  refine g_iinc (v := 9) (lv' := [(1, .int (9 : Int32)), (0, .ref (ad 52))]) C 0 d_MD_init_109 rfl (by decide) (by decide) rfl ?_
  refine g_goto (tgt := 96) C d_MD_init_112 (by decide) ?_
  refine g_iload_n C 0 1 d_MD_init_96 rfl rfl ?_
  refine g_bipush (v := 12) C d_MD_init_97 (by decide) ?_
  refine g_icmp_ge (tgt := 115) C d_MD_init_99 (by decide) (fun h => absurd h (by decide)) (fun _ => ?_)
  refine g_aload_n C 1 0 d_MD_init_102 rfl rfl ?_
  refine g_getr C 52 4 rfl d_MD_init_103 (by decide) rfl rfl (by decide) rfl in_MD mw_403 rfl ?_
  refine g_iload_n C 0 1 d_MD_init_106 rfl rfl ?_
  refine g_iconst (v := 1) C d_MD_init_107 (by decide) ?_
  refine g_iast C 56 rfl d_MD_init_108 (by decide) rfl rfl (pk_in 9 12 (by decide)) ?_
  refine g_iinc (v := 10) (lv' := [(1, .int (10 : Int32)), (0, .ref (ad 52))]) C 0 d_MD_init_109 rfl (by decide) (by decide) rfl ?_
  refine g_goto (tgt := 96) C d_MD_init_112 (by decide) ?_
  refine g_iload_n C 0 1 d_MD_init_96 rfl rfl ?_
  refine g_bipush (v := 12) C d_MD_init_97 (by decide) ?_
  refine g_icmp_ge (tgt := 115) C d_MD_init_99 (by decide) (fun h => absurd h (by decide)) (fun _ => ?_)
  refine g_aload_n C 1 0 d_MD_init_102 rfl rfl ?_
  refine g_getr C 52 4 rfl d_MD_init_103 (by decide) rfl rfl (by decide) rfl in_MD mw_403 rfl ?_
  refine g_iload_n C 0 1 d_MD_init_106 rfl rfl ?_
  refine g_iconst (v := 1) C d_MD_init_107 (by decide) ?_
  refine g_iast C 56 rfl d_MD_init_108 (by decide) rfl rfl (pk_in 10 12 (by decide)) ?_
  refine g_iinc (v := 11) (lv' := [(1, .int (11 : Int32)), (0, .ref (ad 52))]) C 0 d_MD_init_109 rfl (by decide) (by decide) rfl ?_
  refine g_goto (tgt := 96) C d_MD_init_112 (by decide) ?_
  refine g_iload_n C 0 1 d_MD_init_96 rfl rfl ?_
  refine g_bipush (v := 12) C d_MD_init_97 (by decide) ?_
  refine g_icmp_ge (tgt := 115) C d_MD_init_99 (by decide) (fun h => absurd h (by decide)) (fun _ => ?_)
  refine g_aload_n C 1 0 d_MD_init_102 rfl rfl ?_
  refine g_getr C 52 4 rfl d_MD_init_103 (by decide) rfl rfl (by decide) rfl in_MD mw_403 rfl ?_
  refine g_iload_n C 0 1 d_MD_init_106 rfl rfl ?_
  refine g_iconst (v := 1) C d_MD_init_107 (by decide) ?_
  refine g_iast C 56 rfl d_MD_init_108 (by decide) rfl rfl (pk_in 11 12 (by decide)) ?_
  refine g_iinc (v := 12) (lv' := [(1, .int (12 : Int32)), (0, .ref (ad 52))]) C 0 d_MD_init_109 rfl (by decide) (by decide) rfl ?_
  refine g_goto (tgt := 96) C d_MD_init_112 (by decide) ?_
  refine g_iload_n C 0 1 d_MD_init_96 rfl rfl ?_
  refine g_bipush (v := 12) C d_MD_init_97 (by decide) ?_
  refine g_icmp_ge (tgt := 115) C d_MD_init_99 (by decide) (fun _ => ?_) (fun h => absurd (by decide) h)
  exact g_vretC C (fun j => if j = 53 then q53 else if j = 54 then q54 else if j = 55 then q55 else if j = 56 then q56 else if j = 57 then q57 else if j = 58 then q58 else if j = 59 then q59 else if j = 60 then q60 else if j = 61 then q61 else 0) hQ rfl d_MD_init_115 trivial (fun k _ => ⟨rfl, rfl, rfl⟩)
