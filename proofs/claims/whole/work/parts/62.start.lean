/-! THE START: the two objects made, and the claim -/
def adB (q0 : Nat) (u : Nat → Nat) : Nat → Nat := ad_BE_init (va_up (fun _ => 0) 0 q0) u
def shB (q0 : Nat) (u : Nat → Nat) : Nat → em_Sh := sh_BE_init (va_up (fun _ => 0) 0 q0) (va_up (fun _ => .inl (0, 0)) 0 (.inr (.inl (6, [some none, some none, some none, some none, some none, none, none])))) u
def adF (q0 : Nat) (u : Nat → Nat) (q1 : Nat) (v : Nat → Nat) : Nat → Nat := ad_MD_init (va_up (adB q0 u) 52 q1) v
def shF (q0 : Nat) (u : Nat → Nat) (q1 : Nat) (v : Nat → Nat) : Nat → em_Sh := sh_MD_init (va_up (adB q0 u) 52 q1) (va_up (shB q0 u) 52 (.inr (.inl (7, [none, some none, some none, some none, some none, none, none, none, none, none, none, some none, some none, some none, some none, some none, none, none, none, none, none, none, none, none, none])))) v
set_option maxRecDepth 100000 in
theorem sF_0 (q0 : Nat) (u : Nat → Nat) (q1 : Nat) (v : Nat → Nat) : shF q0 u q1 v 0 = SH (adF q0 u q1 v) 0 := rfl
set_option maxRecDepth 100000 in
theorem sF_1 (q0 : Nat) (u : Nat → Nat) (q1 : Nat) (v : Nat → Nat) : shF q0 u q1 v 1 = SH (adF q0 u q1 v) 1 := rfl
set_option maxRecDepth 100000 in
theorem sF_2 (q0 : Nat) (u : Nat → Nat) (q1 : Nat) (v : Nat → Nat) : ∃ f f', shF q0 u q1 v 2 = .inr (.inr (1, 12, f)) ∧ SH (adF q0 u q1 v) 2 = .inr (.inr (1, 12, f')) ∧ ∀ j, j < 12 → f j = f' j := ⟨_, _, rfl, rfl, fun j hj => by rcases (show j = 0 ∨ j = 1 ∨ j = 2 ∨ j = 3 ∨ j = 4 ∨ j = 5 ∨ j = 6 ∨ j = 7 ∨ j = 8 ∨ j = 9 ∨ j = 10 ∨ j = 11 by omega) with rfl | rfl | rfl | rfl | rfl | rfl | rfl | rfl | rfl | rfl | rfl | rfl <;> rfl⟩
set_option maxRecDepth 100000 in
theorem sF_3 (q0 : Nat) (u : Nat → Nat) (q1 : Nat) (v : Nat → Nat) : shF q0 u q1 v 3 = SH (adF q0 u q1 v) 3 := rfl
set_option maxRecDepth 100000 in
theorem sF_4 (q0 : Nat) (u : Nat → Nat) (q1 : Nat) (v : Nat → Nat) : shF q0 u q1 v 4 = SH (adF q0 u q1 v) 4 := rfl
set_option maxRecDepth 100000 in
theorem sF_5 (q0 : Nat) (u : Nat → Nat) (q1 : Nat) (v : Nat → Nat) : shF q0 u q1 v 5 = SH (adF q0 u q1 v) 5 := rfl
set_option maxRecDepth 100000 in
theorem sF_6 (q0 : Nat) (u : Nat → Nat) (q1 : Nat) (v : Nat → Nat) : shF q0 u q1 v 6 = SH (adF q0 u q1 v) 6 := rfl
set_option maxRecDepth 100000 in
theorem sF_7 (q0 : Nat) (u : Nat → Nat) (q1 : Nat) (v : Nat → Nat) : shF q0 u q1 v 7 = SH (adF q0 u q1 v) 7 := rfl
set_option maxRecDepth 100000 in
theorem sF_8 (q0 : Nat) (u : Nat → Nat) (q1 : Nat) (v : Nat → Nat) : shF q0 u q1 v 8 = SH (adF q0 u q1 v) 8 := rfl
set_option maxRecDepth 100000 in
theorem sF_9 (q0 : Nat) (u : Nat → Nat) (q1 : Nat) (v : Nat → Nat) : shF q0 u q1 v 9 = SH (adF q0 u q1 v) 9 := rfl
set_option maxRecDepth 100000 in
theorem sF_10 (q0 : Nat) (u : Nat → Nat) (q1 : Nat) (v : Nat → Nat) : shF q0 u q1 v 10 = SH (adF q0 u q1 v) 10 := rfl
set_option maxRecDepth 100000 in
theorem sF_11 (q0 : Nat) (u : Nat → Nat) (q1 : Nat) (v : Nat → Nat) : shF q0 u q1 v 11 = SH (adF q0 u q1 v) 11 := rfl
set_option maxRecDepth 100000 in
theorem sF_12 (q0 : Nat) (u : Nat → Nat) (q1 : Nat) (v : Nat → Nat) : shF q0 u q1 v 12 = SH (adF q0 u q1 v) 12 := rfl
set_option maxRecDepth 100000 in
theorem sF_13 (q0 : Nat) (u : Nat → Nat) (q1 : Nat) (v : Nat → Nat) : shF q0 u q1 v 13 = SH (adF q0 u q1 v) 13 := rfl
set_option maxRecDepth 100000 in
theorem sF_14 (q0 : Nat) (u : Nat → Nat) (q1 : Nat) (v : Nat → Nat) : shF q0 u q1 v 14 = SH (adF q0 u q1 v) 14 := rfl
set_option maxRecDepth 100000 in
theorem sF_15 (q0 : Nat) (u : Nat → Nat) (q1 : Nat) (v : Nat → Nat) : shF q0 u q1 v 15 = SH (adF q0 u q1 v) 15 := rfl
set_option maxRecDepth 100000 in
theorem sF_16 (q0 : Nat) (u : Nat → Nat) (q1 : Nat) (v : Nat → Nat) : shF q0 u q1 v 16 = SH (adF q0 u q1 v) 16 := rfl
set_option maxRecDepth 100000 in
theorem sF_17 (q0 : Nat) (u : Nat → Nat) (q1 : Nat) (v : Nat → Nat) : shF q0 u q1 v 17 = SH (adF q0 u q1 v) 17 := rfl
set_option maxRecDepth 100000 in
theorem sF_18 (q0 : Nat) (u : Nat → Nat) (q1 : Nat) (v : Nat → Nat) : shF q0 u q1 v 18 = SH (adF q0 u q1 v) 18 := rfl
set_option maxRecDepth 100000 in
theorem sF_19 (q0 : Nat) (u : Nat → Nat) (q1 : Nat) (v : Nat → Nat) : shF q0 u q1 v 19 = SH (adF q0 u q1 v) 19 := rfl
set_option maxRecDepth 100000 in
theorem sF_20 (q0 : Nat) (u : Nat → Nat) (q1 : Nat) (v : Nat → Nat) : shF q0 u q1 v 20 = SH (adF q0 u q1 v) 20 := rfl
set_option maxRecDepth 100000 in
theorem sF_21 (q0 : Nat) (u : Nat → Nat) (q1 : Nat) (v : Nat → Nat) : shF q0 u q1 v 21 = SH (adF q0 u q1 v) 21 := rfl
set_option maxRecDepth 100000 in
theorem sF_22 (q0 : Nat) (u : Nat → Nat) (q1 : Nat) (v : Nat → Nat) : shF q0 u q1 v 22 = SH (adF q0 u q1 v) 22 := rfl
set_option maxRecDepth 100000 in
theorem sF_23 (q0 : Nat) (u : Nat → Nat) (q1 : Nat) (v : Nat → Nat) : shF q0 u q1 v 23 = SH (adF q0 u q1 v) 23 := rfl
set_option maxRecDepth 100000 in
theorem sF_24 (q0 : Nat) (u : Nat → Nat) (q1 : Nat) (v : Nat → Nat) : shF q0 u q1 v 24 = SH (adF q0 u q1 v) 24 := rfl
set_option maxRecDepth 100000 in
theorem sF_25 (q0 : Nat) (u : Nat → Nat) (q1 : Nat) (v : Nat → Nat) : shF q0 u q1 v 25 = SH (adF q0 u q1 v) 25 := rfl
set_option maxRecDepth 100000 in
theorem sF_26 (q0 : Nat) (u : Nat → Nat) (q1 : Nat) (v : Nat → Nat) : shF q0 u q1 v 26 = SH (adF q0 u q1 v) 26 := rfl
set_option maxRecDepth 100000 in
theorem sF_27 (q0 : Nat) (u : Nat → Nat) (q1 : Nat) (v : Nat → Nat) : shF q0 u q1 v 27 = SH (adF q0 u q1 v) 27 := rfl
set_option maxRecDepth 100000 in
theorem sF_28 (q0 : Nat) (u : Nat → Nat) (q1 : Nat) (v : Nat → Nat) : shF q0 u q1 v 28 = SH (adF q0 u q1 v) 28 := rfl
set_option maxRecDepth 100000 in
theorem sF_29 (q0 : Nat) (u : Nat → Nat) (q1 : Nat) (v : Nat → Nat) : shF q0 u q1 v 29 = SH (adF q0 u q1 v) 29 := rfl
set_option maxRecDepth 100000 in
theorem sF_30 (q0 : Nat) (u : Nat → Nat) (q1 : Nat) (v : Nat → Nat) : shF q0 u q1 v 30 = SH (adF q0 u q1 v) 30 := rfl
set_option maxRecDepth 100000 in
theorem sF_31 (q0 : Nat) (u : Nat → Nat) (q1 : Nat) (v : Nat → Nat) : shF q0 u q1 v 31 = SH (adF q0 u q1 v) 31 := rfl
set_option maxRecDepth 100000 in
theorem sF_32 (q0 : Nat) (u : Nat → Nat) (q1 : Nat) (v : Nat → Nat) : shF q0 u q1 v 32 = SH (adF q0 u q1 v) 32 := rfl
set_option maxRecDepth 100000 in
theorem sF_33 (q0 : Nat) (u : Nat → Nat) (q1 : Nat) (v : Nat → Nat) : shF q0 u q1 v 33 = SH (adF q0 u q1 v) 33 := rfl
set_option maxRecDepth 100000 in
theorem sF_34 (q0 : Nat) (u : Nat → Nat) (q1 : Nat) (v : Nat → Nat) : shF q0 u q1 v 34 = SH (adF q0 u q1 v) 34 := rfl
set_option maxRecDepth 100000 in
theorem sF_35 (q0 : Nat) (u : Nat → Nat) (q1 : Nat) (v : Nat → Nat) : shF q0 u q1 v 35 = SH (adF q0 u q1 v) 35 := rfl
set_option maxRecDepth 100000 in
theorem sF_36 (q0 : Nat) (u : Nat → Nat) (q1 : Nat) (v : Nat → Nat) : shF q0 u q1 v 36 = SH (adF q0 u q1 v) 36 := rfl
set_option maxRecDepth 100000 in
theorem sF_37 (q0 : Nat) (u : Nat → Nat) (q1 : Nat) (v : Nat → Nat) : shF q0 u q1 v 37 = SH (adF q0 u q1 v) 37 := rfl
set_option maxRecDepth 100000 in
theorem sF_38 (q0 : Nat) (u : Nat → Nat) (q1 : Nat) (v : Nat → Nat) : shF q0 u q1 v 38 = SH (adF q0 u q1 v) 38 := rfl
set_option maxRecDepth 100000 in
theorem sF_39 (q0 : Nat) (u : Nat → Nat) (q1 : Nat) (v : Nat → Nat) : shF q0 u q1 v 39 = SH (adF q0 u q1 v) 39 := rfl
set_option maxRecDepth 100000 in
theorem sF_40 (q0 : Nat) (u : Nat → Nat) (q1 : Nat) (v : Nat → Nat) : shF q0 u q1 v 40 = SH (adF q0 u q1 v) 40 := rfl
set_option maxRecDepth 100000 in
theorem sF_41 (q0 : Nat) (u : Nat → Nat) (q1 : Nat) (v : Nat → Nat) : shF q0 u q1 v 41 = SH (adF q0 u q1 v) 41 := rfl
set_option maxRecDepth 100000 in
theorem sF_42 (q0 : Nat) (u : Nat → Nat) (q1 : Nat) (v : Nat → Nat) : shF q0 u q1 v 42 = SH (adF q0 u q1 v) 42 := rfl
set_option maxRecDepth 100000 in
theorem sF_43 (q0 : Nat) (u : Nat → Nat) (q1 : Nat) (v : Nat → Nat) : shF q0 u q1 v 43 = SH (adF q0 u q1 v) 43 := rfl
set_option maxRecDepth 100000 in
theorem sF_44 (q0 : Nat) (u : Nat → Nat) (q1 : Nat) (v : Nat → Nat) : shF q0 u q1 v 44 = SH (adF q0 u q1 v) 44 := rfl
set_option maxRecDepth 100000 in
theorem sF_45 (q0 : Nat) (u : Nat → Nat) (q1 : Nat) (v : Nat → Nat) : shF q0 u q1 v 45 = SH (adF q0 u q1 v) 45 := rfl
set_option maxRecDepth 100000 in
theorem sF_46 (q0 : Nat) (u : Nat → Nat) (q1 : Nat) (v : Nat → Nat) : shF q0 u q1 v 46 = SH (adF q0 u q1 v) 46 := rfl
set_option maxRecDepth 100000 in
theorem sF_47 (q0 : Nat) (u : Nat → Nat) (q1 : Nat) (v : Nat → Nat) : shF q0 u q1 v 47 = SH (adF q0 u q1 v) 47 := rfl
set_option maxRecDepth 100000 in
theorem sF_48 (q0 : Nat) (u : Nat → Nat) (q1 : Nat) (v : Nat → Nat) : shF q0 u q1 v 48 = SH (adF q0 u q1 v) 48 := rfl
set_option maxRecDepth 100000 in
theorem sF_49 (q0 : Nat) (u : Nat → Nat) (q1 : Nat) (v : Nat → Nat) : shF q0 u q1 v 49 = SH (adF q0 u q1 v) 49 := rfl
set_option maxRecDepth 100000 in
theorem sF_50 (q0 : Nat) (u : Nat → Nat) (q1 : Nat) (v : Nat → Nat) : shF q0 u q1 v 50 = SH (adF q0 u q1 v) 50 := rfl
set_option maxRecDepth 100000 in
theorem sF_51 (q0 : Nat) (u : Nat → Nat) (q1 : Nat) (v : Nat → Nat) : shF q0 u q1 v 51 = SH (adF q0 u q1 v) 51 := rfl
set_option maxRecDepth 100000 in
theorem sF_52 (q0 : Nat) (u : Nat → Nat) (q1 : Nat) (v : Nat → Nat) : shF q0 u q1 v 52 = SH (adF q0 u q1 v) 52 := rfl
set_option maxRecDepth 100000 in
theorem sF_53 (q0 : Nat) (u : Nat → Nat) (q1 : Nat) (v : Nat → Nat) : shF q0 u q1 v 53 = SH (adF q0 u q1 v) 53 := rfl
set_option maxRecDepth 100000 in
theorem sF_54 (q0 : Nat) (u : Nat → Nat) (q1 : Nat) (v : Nat → Nat) : shF q0 u q1 v 54 = SH (adF q0 u q1 v) 54 := rfl
set_option maxRecDepth 100000 in
theorem sF_55 (q0 : Nat) (u : Nat → Nat) (q1 : Nat) (v : Nat → Nat) : shF q0 u q1 v 55 = SH (adF q0 u q1 v) 55 := rfl
set_option maxRecDepth 100000 in
theorem sF_56 (q0 : Nat) (u : Nat → Nat) (q1 : Nat) (v : Nat → Nat) : shF q0 u q1 v 56 = SH (adF q0 u q1 v) 56 := rfl
set_option maxRecDepth 100000 in
theorem sF_57 (q0 : Nat) (u : Nat → Nat) (q1 : Nat) (v : Nat → Nat) : shF q0 u q1 v 57 = SH (adF q0 u q1 v) 57 := rfl
set_option maxRecDepth 100000 in
theorem sF_58 (q0 : Nat) (u : Nat → Nat) (q1 : Nat) (v : Nat → Nat) : shF q0 u q1 v 58 = SH (adF q0 u q1 v) 58 := rfl
set_option maxRecDepth 100000 in
theorem sF_59 (q0 : Nat) (u : Nat → Nat) (q1 : Nat) (v : Nat → Nat) : shF q0 u q1 v 59 = SH (adF q0 u q1 v) 59 := rfl
set_option maxRecDepth 100000 in
theorem sF_60 (q0 : Nat) (u : Nat → Nat) (q1 : Nat) (v : Nat → Nat) : shF q0 u q1 v 60 = SH (adF q0 u q1 v) 60 := rfl
set_option maxRecDepth 100000 in
theorem sF_61 (q0 : Nat) (u : Nat → Nat) (q1 : Nat) (v : Nat → Nat) : shF q0 u q1 v 61 = SH (adF q0 u q1 v) 61 := rfl
def sF_P (q0 : Nat) (u : Nat → Nat) (q1 : Nat) (v : Nat → Nat) (k : Nat) : Prop := shF q0 u q1 v k = SH (adF q0 u q1 v) k ∨ ∃ t len f f', shF q0 u q1 v k = .inr (.inr (t, len, f)) ∧ SH (adF q0 u q1 v) k = .inr (.inr (t, len, f')) ∧ ∀ j, j < len → f j = f' j
theorem sF_all (q0 : Nat) (u : Nat → Nat) (q1 : Nat) (v : Nat → Nat) : ∀ k ∈ [0, 1, 2, 3, 4, 5, 6, 7, 8, 9, 10, 11, 12, 13, 14, 15, 16, 17, 18, 19, 20, 21, 22, 23, 24, 25, 26, 27, 28, 29, 30, 31, 32, 33, 34, 35, 36, 37, 38, 39, 40, 41, 42, 43, 44, 45, 46, 47, 48, 49, 50, 51, 52, 53, 54, 55, 56, 57, 58, 59, 60, 61], sF_P q0 u q1 v k := List.forall_mem_cons.mpr ⟨(Or.inl (sF_0 q0 u q1 v)), List.forall_mem_cons.mpr ⟨(Or.inl (sF_1 q0 u q1 v)), List.forall_mem_cons.mpr ⟨(let ⟨f, f', h⟩ := sF_2 q0 u q1 v; Or.inr ⟨1, 12, f, f', h⟩), List.forall_mem_cons.mpr ⟨(Or.inl (sF_3 q0 u q1 v)), List.forall_mem_cons.mpr ⟨(Or.inl (sF_4 q0 u q1 v)), List.forall_mem_cons.mpr ⟨(Or.inl (sF_5 q0 u q1 v)), List.forall_mem_cons.mpr ⟨(Or.inl (sF_6 q0 u q1 v)), List.forall_mem_cons.mpr ⟨(Or.inl (sF_7 q0 u q1 v)), List.forall_mem_cons.mpr ⟨(Or.inl (sF_8 q0 u q1 v)), List.forall_mem_cons.mpr ⟨(Or.inl (sF_9 q0 u q1 v)), List.forall_mem_cons.mpr ⟨(Or.inl (sF_10 q0 u q1 v)), List.forall_mem_cons.mpr ⟨(Or.inl (sF_11 q0 u q1 v)), List.forall_mem_cons.mpr ⟨(Or.inl (sF_12 q0 u q1 v)), List.forall_mem_cons.mpr ⟨(Or.inl (sF_13 q0 u q1 v)), List.forall_mem_cons.mpr ⟨(Or.inl (sF_14 q0 u q1 v)), List.forall_mem_cons.mpr ⟨(Or.inl (sF_15 q0 u q1 v)), List.forall_mem_cons.mpr ⟨(Or.inl (sF_16 q0 u q1 v)), List.forall_mem_cons.mpr ⟨(Or.inl (sF_17 q0 u q1 v)), List.forall_mem_cons.mpr ⟨(Or.inl (sF_18 q0 u q1 v)), List.forall_mem_cons.mpr ⟨(Or.inl (sF_19 q0 u q1 v)), List.forall_mem_cons.mpr ⟨(Or.inl (sF_20 q0 u q1 v)), List.forall_mem_cons.mpr ⟨(Or.inl (sF_21 q0 u q1 v)), List.forall_mem_cons.mpr ⟨(Or.inl (sF_22 q0 u q1 v)), List.forall_mem_cons.mpr ⟨(Or.inl (sF_23 q0 u q1 v)), List.forall_mem_cons.mpr ⟨(Or.inl (sF_24 q0 u q1 v)), List.forall_mem_cons.mpr ⟨(Or.inl (sF_25 q0 u q1 v)), List.forall_mem_cons.mpr ⟨(Or.inl (sF_26 q0 u q1 v)), List.forall_mem_cons.mpr ⟨(Or.inl (sF_27 q0 u q1 v)), List.forall_mem_cons.mpr ⟨(Or.inl (sF_28 q0 u q1 v)), List.forall_mem_cons.mpr ⟨(Or.inl (sF_29 q0 u q1 v)), List.forall_mem_cons.mpr ⟨(Or.inl (sF_30 q0 u q1 v)), List.forall_mem_cons.mpr ⟨(Or.inl (sF_31 q0 u q1 v)), List.forall_mem_cons.mpr ⟨(Or.inl (sF_32 q0 u q1 v)), List.forall_mem_cons.mpr ⟨(Or.inl (sF_33 q0 u q1 v)), List.forall_mem_cons.mpr ⟨(Or.inl (sF_34 q0 u q1 v)), List.forall_mem_cons.mpr ⟨(Or.inl (sF_35 q0 u q1 v)), List.forall_mem_cons.mpr ⟨(Or.inl (sF_36 q0 u q1 v)), List.forall_mem_cons.mpr ⟨(Or.inl (sF_37 q0 u q1 v)), List.forall_mem_cons.mpr ⟨(Or.inl (sF_38 q0 u q1 v)), List.forall_mem_cons.mpr ⟨(Or.inl (sF_39 q0 u q1 v)), List.forall_mem_cons.mpr ⟨(Or.inl (sF_40 q0 u q1 v)), List.forall_mem_cons.mpr ⟨(Or.inl (sF_41 q0 u q1 v)), List.forall_mem_cons.mpr ⟨(Or.inl (sF_42 q0 u q1 v)), List.forall_mem_cons.mpr ⟨(Or.inl (sF_43 q0 u q1 v)), List.forall_mem_cons.mpr ⟨(Or.inl (sF_44 q0 u q1 v)), List.forall_mem_cons.mpr ⟨(Or.inl (sF_45 q0 u q1 v)), List.forall_mem_cons.mpr ⟨(Or.inl (sF_46 q0 u q1 v)), List.forall_mem_cons.mpr ⟨(Or.inl (sF_47 q0 u q1 v)), List.forall_mem_cons.mpr ⟨(Or.inl (sF_48 q0 u q1 v)), List.forall_mem_cons.mpr ⟨(Or.inl (sF_49 q0 u q1 v)), List.forall_mem_cons.mpr ⟨(Or.inl (sF_50 q0 u q1 v)), List.forall_mem_cons.mpr ⟨(Or.inl (sF_51 q0 u q1 v)), List.forall_mem_cons.mpr ⟨(Or.inl (sF_52 q0 u q1 v)), List.forall_mem_cons.mpr ⟨(Or.inl (sF_53 q0 u q1 v)), List.forall_mem_cons.mpr ⟨(Or.inl (sF_54 q0 u q1 v)), List.forall_mem_cons.mpr ⟨(Or.inl (sF_55 q0 u q1 v)), List.forall_mem_cons.mpr ⟨(Or.inl (sF_56 q0 u q1 v)), List.forall_mem_cons.mpr ⟨(Or.inl (sF_57 q0 u q1 v)), List.forall_mem_cons.mpr ⟨(Or.inl (sF_58 q0 u q1 v)), List.forall_mem_cons.mpr ⟨(Or.inl (sF_59 q0 u q1 v)), List.forall_mem_cons.mpr ⟨(Or.inl (sF_60 q0 u q1 v)), List.forall_mem_cons.mpr ⟨(Or.inl (sF_61 q0 u q1 v)), fun _ h => absurd h List.not_mem_nil⟩⟩⟩⟩⟩⟩⟩⟩⟩⟩⟩⟩⟩⟩⟩⟩⟩⟩⟩⟩⟩⟩⟩⟩⟩⟩⟩⟩⟩⟩⟩⟩⟩⟩⟩⟩⟩⟩⟩⟩⟩⟩⟩⟩⟩⟩⟩⟩⟩⟩⟩⟩⟩⟩⟩⟩⟩⟩⟩⟩⟩⟩
theorem sF_lt (q0 : Nat) (u : Nat → Nat) (q1 : Nat) (v : Nat → Nat) (k : Nat) (hk : k < 62) : sF_P q0 u q1 v k := sF_all q0 u q1 v k (by rw [show [0, 1, 2, 3, 4, 5, 6, 7, 8, 9, 10, 11, 12, 13, 14, 15, 16, 17, 18, 19, 20, 21, 22, 23, 24, 25, 26, 27, 28, 29, 30, 31, 32, 33, 34, 35, 36, 37, 38, 39, 40, 41, 42, 43, 44, 45, 46, 47, 48, 49, 50, 51, 52, 53, 54, 55, 56, 57, 58, 59, 60, 61] = List.range 62 from rfl]; exact List.mem_range.mpr hk)
theorem whole_start {p : Program} {e : Env} {s : State} {m : MethodId} {below : List Frame} {meth : Method} {c : Code} (l : Launch) {b L : Nat} {xs : Nat → Int32} (hL : L ≤ 2048) (C0 : lw_At p s m meth c b L xs) : W p l e room_1 s m #[Value.ref b] below meth c s.heap [] 0 0 (lw_Z below #[Value.ref b] s) (entryFrame m ([Value.ref b] : List Value).toArray 4) := by
  obtain ⟨hx, hcb, hr, hml, hown, hts, hX, hbl, hlk, hgv⟩ := C0
  obtain ⟨D, cT, hK, hN⟩ := em_start hts
  have C : em_Cx (p, l, e, room_1, s, m, #[Value.ref b], below, meth, c, lw_Z below #[Value.ref b] s) D s.heap.size cT R_LA code ret 4 room_1 := ⟨hx, hcb, hml, hown, fun w hw => hts w (wgAll w hw).1, hK, hr, hlk, Nat.le_refl _, hN, rfl⟩
  have hl := lv_entry [Value.ref b] (n := 4) (Nat.le_of_ble_eq_true rfl)
  rw [lg_entry_eq]
  have start : em_G (p, l, e, room_1, s, m, #[Value.ref b], below, meth, c, lw_Z below #[Value.ref b] s) D s.heap.size cT (fun _ => 0) 4 (fun _ => .inl (0, 0)) 0 0 0 (fun _ _ => 0) 0 (lv_args 0 [Value.ref b]) [] := by
    refine g_new (ci := 6) C [some none, some none, some none, some none, some none, none, none] ty_BE tyok_BE d_LA_law_0 in_BE mw_74 mw_75 mw_64 rfl rfl (fun j hj => by rcases (show j = 0 ∨ j = 1 ∨ j = 2 ∨ j = 3 ∨ j = 4 ∨ j = 5 ∨ j = 6 by omega) with rfl | rfl | rfl | rfl | rfl | rfl | rfl <;> rfl) (by decide) (by decide) (fun q0 => ?_)
    refine g_dup C d_LA_law_3 rfl ?_
    refine g_callI C [] [.ref q0] (c_BE_init (ad := va_up (fun _ => 0) 0 q0) (sh := va_up (fun _ => .inl (0, 0)) 0 (.inr (.inl (6, [some none, some none, some none, some none, some none, none, none])))) (M := fun _ _ => 0) rfl (fun j hj => rfl)) (em_cwI C 0 mw_76 mw_77 mw_64 mw_78 rfl rfl rfl (by decide +kernel) (by decide)) rfl rfl (Nat.le_of_ble_eq_true rfl) d_LA_law_4 (by decide) (fun u _ => ?_)
    refine g_astore_n (lv' := [(1, .ref q0), (0, .ref b)]) C 1 d_LA_law_7 rfl (by decide) rfl ?_
    have hz : ∀ j, 43 ≤ j → M_BE_init (fun _ _ => 0) j = fun _ => 0 := hM_QU_init (fun j _ => rfl)
    refine g_new (ci := 7) C [none, some none, some none, some none, some none, none, none, none, none, none, none, some none, some none, some none, some none, some none, none, none, none, none, none, none, none, none, none] ty_MD tyok_MD d_LA_law_8 in_MD mw_393 mw_394 mw_71 rfl (hz 52 (by decide)) (fun j hj => by rcases (show j = 0 ∨ j = 1 ∨ j = 2 ∨ j = 3 ∨ j = 4 ∨ j = 5 ∨ j = 6 ∨ j = 7 ∨ j = 8 ∨ j = 9 ∨ j = 10 ∨ j = 11 ∨ j = 12 ∨ j = 13 ∨ j = 14 ∨ j = 15 ∨ j = 16 ∨ j = 17 ∨ j = 18 ∨ j = 19 ∨ j = 20 ∨ j = 21 ∨ j = 22 ∨ j = 23 ∨ j = 24 by omega) with rfl | rfl | rfl | rfl | rfl | rfl | rfl | rfl | rfl | rfl | rfl | rfl | rfl | rfl | rfl | rfl | rfl | rfl | rfl | rfl | rfl | rfl | rfl | rfl | rfl <;> rfl) (by decide) (by decide) (fun q1 => ?_)
    refine g_dup C d_LA_law_11 rfl ?_
    refine g_callI C [] [.ref q1] (c_MD_init (ad := va_up (adB q0 u) 52 q1) (sh := va_up (shB q0 u) 52 (.inr (.inl (7, [none, some none, some none, some none, some none, none, none, none, none, none, none, some none, some none, some none, some none, some none, none, none, none, none, none, none, none, none, none])))) (M := M_BE_init (fun _ _ => 0)) (va_up_self _ _ _) (fun j hj => hz j (Nat.le_trans (by decide) hj))) (em_cwI C 0 mw_395 mw_396 mw_71 mw_397 rfl rfl rfl (by decide +kernel) (by decide)) rfl rfl (Nat.le_of_ble_eq_true rfl) d_LA_law_12 (by decide) (fun v _ => ?_)
    refine g_astore_n (lv' := [(2, .ref q1), (1, .ref q0), (0, .ref b)]) C 2 d_LA_law_15 rfl (by decide) rfl ?_
    intro ls H locs h1 h2 h3
    exact v_LA_law (ad := adF q0 u q1 v) hX hbl hbl rfl rfl C rfl (pure_law hL JJ_0) ls H locs h1 (em_P_congr2 (sF_lt q0 u q1 v) h2) h3
  exact start _ s.heap [] hl ⟨fun k q hq => absurd (em_w_lt hq).1 (Nat.not_lt_zero _), ⟨fun i j p q hp _ _ => absurd (em_w_lt hp).1 (Nat.not_lt_zero _), fun k q hq => absurd (em_w_lt hq).1 (Nat.not_lt_zero _)⟩⟩ va_S.rf
