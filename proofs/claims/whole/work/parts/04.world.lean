/-! THE WORLD: the cells of the class and of the reference by their numbers; rooms. Written by wip/gen/g.py -/
abbrev NC : Nat := 62
def SH1 (ad : Nat → Nat) (k : Nat) : em_Sh := if k = 0 then .inr (.inl (6, [some (some (ad 1)), some (some (ad 40)), some (some (ad 43)), some (some (ad 48)), some (some (ad 51)), none, none])) else if k = 1 then .inr (.inl (5, [some (some (ad 2)), some (some (ad 3))])) else if k = 2 then .inr (.inr (1, 12, fun j => some (ad (4 + 3 * j)))) else if k = 3 then .inl (0, 512) else if k = 40 then .inr (.inl (2, [some (some (ad 1)), some (some (ad 41)), some (some (ad 42)), none, none, none, none])) else if k = 41 then .inl (0, 12) else if k = 42 then .inl (0, 12) else if k = 43 then .inr (.inl (3, [some (some (ad 44)), some (some (ad 45)), some (some (ad 46)), some (some (ad 47)), none, none])) else if k = 44 then .inl (0, 20) else if k = 45 then .inl (0, 20) else if k = 46 then .inl (0, 20) else if k = 47 then .inl (0, 20) else if k = 48 then .inr (.inl (1, [some (some (ad 1)), some (some (ad 40)), some (some (ad 43)), some (some (ad 49)), some (some (ad 50)), none, none, none, none, none, none, none])) else if k = 49 then .inl (0, 12) else if k = 50 then .inl (0, 12) else if k = 51 then .inr (.inl (0, [some (some (ad 1)), some (some (ad 40)), some (some (ad 43)), none, none])) else if k = 52 then .inr (.inl (7, [none, some (some (ad 53)), some (some (ad 54)), some (some (ad 55)), some (some (ad 56)), none, none, none, none, none, none, some (some (ad 57)), some (some (ad 58)), some (some (ad 59)), some (some (ad 60)), some (some (ad 61)), none, none, none, none, none, none, none, none, none])) else if k = 53 then .inl (0, 6144) else if k = 54 then .inl (0, 512) else if k = 55 then .inl (0, 12) else if k = 56 then .inl (0, 12) else if k = 57 then .inl (0, 21) else if k = 58 then .inl (0, 21) else if k = 59 then .inl (0, 21) else if k = 60 then .inl (0, 21) else if k = 61 then .inl (0, 12) else .inl (0, 0)
def SH (ad : Nat → Nat) (k : Nat) : em_Sh := if 4 ≤ k ∧ k < 40 then (if (k - 4) % 3 = 0 then .inr (.inl (4, [some (some (ad (5 + 3 * ((k - 4) / 3)))), some (some (ad (6 + 3 * ((k - 4) / 3)))), none])) else if (k - 4) % 3 = 1 then .inl (0, 120) else if (k - 4) % 3 = 2 then .inl (0, 512) else .inl (0, 0)) else SH1 ad k
theorem em_nc_BE : 0 < NC := by decide
theorem em_sh_BE {ad : Nat → Nat} : SH ad 0 = .inr (.inl (6, [some (some (ad 1)), some (some (ad 40)), some (some (ad 43)), some (some (ad 48)), some (some (ad 51)), none, none])) := rfl
theorem em_nc_SF : 1 < NC := by decide
theorem em_sh_SF {ad : Nat → Nat} : SH ad 1 = .inr (.inl (5, [some (some (ad 2)), some (some (ad 3))])) := rfl
theorem em_nc_lists : 2 < NC := by decide
theorem em_sh_lists {ad : Nat → Nat} : SH ad 2 = .inr (.inr (1, 12, fun j => some (ad (4 + 3 * j)))) := rfl
theorem em_nc_keyOf : 3 < NC := by decide
theorem em_sh_keyOf {ad : Nat → Nat} : SH ad 3 = .inl (0, 512) := rfl
theorem em_nc_QU : 40 < NC := by decide
theorem em_sh_QU {ad : Nat → Nat} : SH ad 40 = .inr (.inl (2, [some (some (ad 1)), some (some (ad 41)), some (some (ad 42)), none, none, none, none])) := rfl
theorem em_nc_sorts : 41 < NC := by decide
theorem em_sh_sorts {ad : Nat → Nat} : SH ad 41 = .inl (0, 12) := rfl
theorem em_nc_weights : 42 < NC := by decide
theorem em_sh_weights {ad : Nat → Nat} : SH ad 42 = .inl (0, 12) := rfl
theorem em_nc_RK : 43 < NC := by decide
theorem em_sh_RK {ad : Nat → Nat} : SH ad 43 = .inr (.inl (3, [some (some (ad 44)), some (some (ad 45)), some (some (ad 46)), some (some (ad 47)), none, none])) := rfl
theorem em_nc_rObj : 44 < NC := by decide
theorem em_sh_rObj {ad : Nat → Nat} : SH ad 44 = .inl (0, 20) := rfl
theorem em_nc_rNum : 45 < NC := by decide
theorem em_sh_rNum {ad : Nat → Nat} : SH ad 45 = .inl (0, 20) := rfl
theorem em_nc_rSum : 46 < NC := by decide
theorem em_sh_rSum {ad : Nat → Nat} : SH ad 46 = .inl (0, 20) := rfl
theorem em_nc_rKey : 47 < NC := by decide
theorem em_sh_rKey {ad : Nat → Nat} : SH ad 47 = .inl (0, 20) := rfl
theorem em_nc_LW : 48 < NC := by decide
theorem em_sh_LW {ad : Nat → Nat} : SH ad 48 = .inr (.inl (1, [some (some (ad 1)), some (some (ad 40)), some (some (ad 43)), some (some (ad 49)), some (some (ad 50)), none, none, none, none, none, none, none])) := rfl
theorem em_nc_at : 49 < NC := by decide
theorem em_sh_at {ad : Nat → Nat} : SH ad 49 = .inl (0, 12) := rfl
theorem em_nc_bounds : 50 < NC := by decide
theorem em_sh_bounds {ad : Nat → Nat} : SH ad 50 = .inl (0, 12) := rfl
theorem em_nc_KS : 51 < NC := by decide
theorem em_sh_KS {ad : Nat → Nat} : SH ad 51 = .inr (.inl (0, [some (some (ad 1)), some (some (ad 40)), some (some (ad 43)), none, none])) := rfl
theorem em_nc_MD : 52 < NC := by decide
theorem em_sh_MD {ad : Nat → Nat} : SH ad 52 = .inr (.inl (7, [none, some (some (ad 53)), some (some (ad 54)), some (some (ad 55)), some (some (ad 56)), none, none, none, none, none, none, some (some (ad 57)), some (some (ad 58)), some (some (ad 59)), some (some (ad 60)), some (some (ad 61)), none, none, none, none, none, none, none, none, none])) := rfl
theorem em_nc_mScore : 53 < NC := by decide
theorem em_sh_mScore {ad : Nat → Nat} : SH ad 53 = .inl (0, 6144) := rfl
theorem em_nc_mKey : 54 < NC := by decide
theorem em_sh_mKey {ad : Nat → Nat} : SH ad 54 = .inl (0, 512) := rfl
theorem em_nc_mHow : 55 < NC := by decide
theorem em_sh_mHow {ad : Nat → Nat} : SH ad 55 = .inl (0, 12) := rfl
theorem em_nc_mWeight : 56 < NC := by decide
theorem em_sh_mWeight {ad : Nat → Nat} : SH ad 56 = .inl (0, 12) := rfl
theorem em_nc_mObj : 57 < NC := by decide
theorem em_sh_mObj {ad : Nat → Nat} : SH ad 57 = .inl (0, 21) := rfl
theorem em_nc_mNum : 58 < NC := by decide
theorem em_sh_mNum {ad : Nat → Nat} : SH ad 58 = .inl (0, 21) := rfl
theorem em_nc_mSum : 59 < NC := by decide
theorem em_sh_mSum {ad : Nat → Nat} : SH ad 59 = .inl (0, 21) := rfl
theorem em_nc_mKeyT : 60 < NC := by decide
theorem em_sh_mKeyT {ad : Nat → Nat} : SH ad 60 = .inl (0, 21) := rfl
theorem em_nc_mLine : 61 < NC := by decide
theorem em_sh_mLine {ad : Nat → Nat} : SH ad 61 = .inl (0, 12) := rfl
theorem em_nc_SL {i : Nat} (h : i < 12) : (4 + 3 * i) < NC := by show _ < 62; omega
theorem em_sh_SL {ad : Nat → Nat} {i : Nat} (h : i < 12) : SH ad (4 + 3 * i) = .inr (.inl (4, [some (some (ad (5 + 3 * i))), some (some (ad (6 + 3 * i))), none])) := by
  unfold SH
  rw [if_pos (by omega), if_pos (by omega)]
  rw [show ((4 + 3 * i) - 4) / 3 = i by omega]
theorem em_nc_SLo {i : Nat} (h : i < 12) : (5 + 3 * i) < NC := by show _ < 62; omega
theorem em_sh_SLo {ad : Nat → Nat} {i : Nat} (h : i < 12) : SH ad (5 + 3 * i) = .inl (0, 120) := by
  unfold SH
  rw [if_pos (by omega), if_neg (by omega), if_pos (by omega)]
theorem em_nc_SLs {i : Nat} (h : i < 12) : (6 + 3 * i) < NC := by show _ < 62; omega
theorem em_sh_SLs {ad : Nat → Nat} {i : Nat} (h : i < 12) : SH ad (6 + 3 * i) = .inl (0, 512) := by
  unfold SH
  rw [if_pos (by omega), if_neg (by omega), if_neg (by omega), if_pos (by omega)]
abbrev rm_BE_entry : Room := { frames := 2, cells := 0, slots := 0, locals := 71 }
abbrev rm_BE_lose : Room := { frames := 2, cells := 0, slots := 0, locals := 70 }
abbrev rm_BE_key : Room := { frames := 2, cells := 0, slots := 0, locals := 42 }
abbrev rm_BE_top : Room := { frames := 3, cells := 0, slots := 0, locals := 66 }
abbrev rm_BE_ask : Room := { frames := 2, cells := 0, slots := 0, locals := 42 }
abbrev rm_BE_wanted : Room := { frames := 1, cells := 0, slots := 0, locals := 22 }
abbrev rm_BE_place : Room := { frames := 2, cells := 0, slots := 0, locals := 42 }
abbrev rm_BE_fits : Room := { frames := 2, cells := 0, slots := 0, locals := 45 }
abbrev rm_BE_sum : Room := { frames := 2, cells := 0, slots := 0, locals := 44 }
abbrev rm_BE_total : Room := { frames := 2, cells := 0, slots := 0, locals := 45 }
abbrev rm_BE_walk : Room := { frames := 6, cells := 0, slots := 0, locals := 137 }
abbrev rm_BE_keys : Room := { frames := 5, cells := 0, slots := 0, locals := 116 }
abbrev rm_BE_anew : Room := { frames := 3, cells := 0, slots := 0, locals := 70 }
abbrev rm_BE_answer : Room := { frames := 1, cells := 0, slots := 0, locals := 22 }
abbrev rm_BE_told : Room := { frames := 0, cells := 0, slots := 0, locals := 0 }
abbrev rm_BE_count : Room := { frames := 2, cells := 0, slots := 0, locals := 44 }
abbrev rm_BE_isList : Room := { frames := 1, cells := 0, slots := 0, locals := 22 }
abbrev rm_BE_isObject : Room := { frames := 1, cells := 0, slots := 0, locals := 22 }
abbrev rm_BE_isWithin : Room := { frames := 0, cells := 0, slots := 0, locals := 0 }
abbrev rm_MD_in : Room := { frames := 0, cells := 0, slots := 0, locals := 0 }
abbrev rm_MD_at : Room := { frames := 0, cells := 0, slots := 0, locals := 0 }
abbrev rm_MD_size : Room := { frames := 1, cells := 0, slots := 0, locals := 22 }
abbrev rm_MD_entry : Room := { frames := 2, cells := 0, slots := 0, locals := 45 }
abbrev rm_MD_lose : Room := { frames := 2, cells := 0, slots := 0, locals := 45 }
abbrev rm_MD_key : Room := { frames := 1, cells := 0, slots := 0, locals := 22 }
abbrev rm_MD_topOf : Room := { frames := 1, cells := 0, slots := 0, locals := 22 }
abbrev rm_MD_top : Room := { frames := 2, cells := 0, slots := 0, locals := 48 }
abbrev rm_MD_ask : Room := { frames := 1, cells := 0, slots := 0, locals := 22 }
abbrev rm_MD_isAsked : Room := { frames := 0, cells := 0, slots := 0, locals := 0 }
abbrev rm_MD_wanted : Room := { frames := 1, cells := 0, slots := 0, locals := 22 }
abbrev rm_MD_place : Room := { frames := 1, cells := 0, slots := 0, locals := 22 }
abbrev rm_MD_isFit : Room := { frames := 1, cells := 0, slots := 0, locals := 22 }
abbrev rm_MD_sumOf : Room := { frames := 1, cells := 0, slots := 0, locals := 22 }
abbrev rm_MD_fits : Room := { frames := 2, cells := 0, slots := 0, locals := 46 }
abbrev rm_MD_sum : Room := { frames := 2, cells := 0, slots := 0, locals := 45 }
abbrev rm_MD_total : Room := { frames := 2, cells := 0, slots := 0, locals := 46 }
abbrev rm_MD_move : Room := { frames := 0, cells := 0, slots := 0, locals := 0 }
abbrev rm_MD_hold : Room := { frames := 2, cells := 0, slots := 0, locals := 45 }
abbrev rm_MD_firstFrom : Room := { frames := 1, cells := 0, slots := 0, locals := 22 }
abbrev rm_MD_jump : Room := { frames := 2, cells := 0, slots := 0, locals := 45 }
abbrev rm_MD_isLine : Room := { frames := 1, cells := 0, slots := 0, locals := 21 }
abbrev rm_MD_jumpAll : Room := { frames := 3, cells := 0, slots := 0, locals := 68 }
abbrev rm_MD_floor : Room := { frames := 0, cells := 0, slots := 0, locals := 0 }
abbrev rm_MD_isAtEnd : Room := { frames := 2, cells := 0, slots := 0, locals := 42 }
abbrev rm_MD_pivot : Room := { frames := 2, cells := 0, slots := 0, locals := 48 }
abbrev rm_MD_rank : Room := { frames := 1, cells := 0, slots := 0, locals := 22 }
abbrev rm_MD_lastOf : Room := { frames := 1, cells := 0, slots := 0, locals := 22 }
abbrev rm_MD_skipTo : Room := { frames := 2, cells := 0, slots := 0, locals := 48 }
abbrev rm_MD_judge : Room := { frames := 3, cells := 0, slots := 0, locals := 68 }
abbrev rm_MD_step : Room := { frames := 4, cells := 0, slots := 0, locals := 92 }
abbrev rm_MD_walk : Room := { frames := 5, cells := 0, slots := 0, locals := 117 }
abbrev rm_MD_isSomewhere : Room := { frames := 1, cells := 0, slots := 0, locals := 22 }
abbrev rm_MD_keys : Room := { frames := 3, cells := 0, slots := 0, locals := 68 }
abbrev rm_MD_anew : Room := { frames := 1, cells := 0, slots := 0, locals := 22 }
abbrev rm_MD_answer : Room := { frames := 1, cells := 0, slots := 0, locals := 22 }
abbrev rm_MD_told : Room := { frames := 0, cells := 0, slots := 0, locals := 0 }
abbrev rm_MD_count : Room := { frames := 2, cells := 0, slots := 0, locals := 45 }
abbrev rm_KS_run : Room := { frames := 4, cells := 0, slots := 0, locals := 94 }
abbrev rm_KS_goThrough : Room := { frames := 3, cells := 0, slots := 0, locals := 70 }
abbrev rm_LW_run : Room := { frames := 5, cells := 0, slots := 0, locals := 116 }
abbrev rm_LW_begin : Room := { frames := 3, cells := 0, slots := 0, locals := 65 }
abbrev rm_LW_step : Room := { frames := 4, cells := 0, slots := 0, locals := 93 }
abbrev rm_LW_floor : Room := { frames := 1, cells := 0, slots := 0, locals := 20 }
abbrev rm_LW_standing : Room := { frames := 1, cells := 0, slots := 0, locals := 21 }
abbrev rm_LW_leastObject : Room := { frames := 2, cells := 0, slots := 0, locals := 42 }
abbrev rm_LW_isAtEnd : Room := { frames := 3, cells := 0, slots := 0, locals := 64 }
abbrev rm_LW_greatestNeeded : Room := { frames := 2, cells := 0, slots := 0, locals := 42 }
abbrev rm_LW_firstAbove : Room := { frames := 3, cells := 0, slots := 0, locals := 65 }
abbrev rm_LW_boundUpTo : Room := { frames := 2, cells := 0, slots := 0, locals := 42 }
abbrev rm_LW_boundOfBlocks : Room := { frames := 3, cells := 0, slots := 0, locals := 66 }
abbrev rm_LW_endOfBlocks : Room := { frames := 3, cells := 0, slots := 0, locals := 66 }
abbrev rm_LW_blockFor : Room := { frames := 2, cells := 0, slots := 0, locals := 42 }
abbrev rm_LW_jumpAll : Room := { frames := 2, cells := 0, slots := 0, locals := 42 }
abbrev rm_LW_judge : Room := { frames := 3, cells := 0, slots := 0, locals := 70 }
abbrev rm_QU_asksFor : Room := { frames := 0, cells := 0, slots := 0, locals := 0 }
abbrev rm_QU_listsOfSort : Room := { frames := 0, cells := 0, slots := 0, locals := 0 }
abbrev rm_QU_admits : Room := { frames := 1, cells := 0, slots := 0, locals := 21 }
abbrev rm_QU_sumOf : Room := { frames := 1, cells := 0, slots := 0, locals := 21 }
abbrev rm_QU_isBehindPlace : Room := { frames := 0, cells := 0, slots := 0, locals := 0 }
abbrev rm_RK_begin : Room := { frames := 1, cells := 0, slots := 0, locals := 21 }
abbrev rm_RK_isFull : Room := { frames := 0, cells := 0, slots := 0, locals := 0 }
abbrev rm_RK_leastNumber : Room := { frames := 0, cells := 0, slots := 0, locals := 0 }
abbrev rm_RK_offer : Room := { frames := 2, cells := 0, slots := 0, locals := 45 }
abbrev rm_RK_rescore : Room := { frames := 2, cells := 0, slots := 0, locals := 45 }
abbrev rm_RK_rise : Room := { frames := 1, cells := 0, slots := 0, locals := 23 }
abbrev rm_RK_isAhead : Room := { frames := 0, cells := 0, slots := 0, locals := 0 }
abbrev rm_RK_swap : Room := { frames := 0, cells := 0, slots := 0, locals := 0 }
abbrev rm_SL_put : Room := { frames := 1, cells := 0, slots := 0, locals := 48 }
abbrev rm_SL_drop : Room := { frames := 1, cells := 0, slots := 0, locals := 48 }
abbrev rm_SL_firstFrom : Room := { frames := 0, cells := 0, slots := 0, locals := 0 }
abbrev rm_SL_objectAt : Room := { frames := 0, cells := 0, slots := 0, locals := 0 }
abbrev rm_SL_blocks : Room := { frames := 0, cells := 0, slots := 0, locals := 0 }
abbrev rm_SL_greatest : Room := { frames := 2, cells := 0, slots := 0, locals := 45 }
abbrev rm_SL_greatestOfBlock : Room := { frames := 2, cells := 0, slots := 0, locals := 45 }
abbrev rm_SL_lastOfBlock : Room := { frames := 2, cells := 0, slots := 0, locals := 42 }
abbrev rm_SL_blockEnd : Room := { frames := 1, cells := 0, slots := 0, locals := 21 }
abbrev rm_SL_greatestBetween : Room := { frames := 1, cells := 0, slots := 0, locals := 21 }
abbrev rm_SF_has : Room := { frames := 0, cells := 0, slots := 0, locals := 0 }
abbrev rm_SF_objectsInSomeList : Room := { frames := 1, cells := 0, slots := 0, locals := 22 }
abbrev rm_SF_greatestKeyBetween : Room := { frames := 1, cells := 0, slots := 0, locals := 22 }
