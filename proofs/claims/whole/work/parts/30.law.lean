def R_law : String := "BoundEndingLaw"
def lw_P (b : Addr) (xs : List Int32) (args : Array Value) (s : State) : Prop := args = #[.ref b] ∧ s.IntsAt b xs ∧ xs.length ≤ 2048 ∧ (Jvm.Cond.and given_1 narrow_1).before args s = true
def lw_Q (_ : Array Value) (s : State) (o : Outcome) (t : State) : Prop := o = .returned (some (.int 1)) ∧ Framed s o t [] 600000 7302250
def lw_Z (below : List Frame) (a : Array Value) (s : State) : State → Prop := fun t => ∃ o, t.status = .running ∧ Ended t below o ∧ lw_Q a s o t
/-- the law's own end, with 1 on the stack, nothing written that was there before, its room as the claim has it -/
theorem lw_ret {p : Program} {l : Launch} {e : Env} {s : State} {m : MethodId} {below : List Frame} {meth : Method} {c : Code} {b : Nat} (hx : p.tables.exec = Jvm.exec) (hb : c.code = code) (hr : meth.sig.returnType = ret) (hlocks : meth.locks = false) {pc : Nat} {H : Heap} {ls : Array Slot} (hdg : decode code pc = .ok (.ireturn, 1)) : W p l e room_1 s m #[Value.ref b] below meth c H [] 600000 7302250 (lw_Z below #[Value.ref b] s) (F0 m pc ls [.int 1]) := by
  intro T hT X
  obtain ⟨fs, hret, hrun, hended, hW, hframe⟩ := X.leave (v := some (.int 1)) (hlocks := hlocks) (fun h => by rw [hr] at h; cases h)
  have hmeth' : T.vm.method? m = some meth := X.method'
  refine ⟨T.setFrames fs, ?_, .returned (some (.int 1)), hrun, hended, rfl, ⟨_, rfl⟩, hW, hframe⟩
  jvm_step X.here [X.here.top, hx, hb, hdg, hmeth', hr, ret, narrow_b1]
  (try refine ⟨rfl, ?_⟩); (try refine ⟨rfl, ?_⟩)
  first | (intro acts; rw [hret _ acts rfl rfl rfl]) | rw [hret _ _ rfl rfl rfl]
  exact Steps.refl _
/-- what holds at the law's entry: the machine, the code, the tables' words (any of lw_tbl by 'hts w (by decide +kernel)'), the script of L ints xs at the cell b, what the Statement gives of the start (any of its parts by flat_of_before) -/
def lw_At (p : Program) (s : State) (m : MethodId) (meth : Method) (c : Code) (b L : Nat) (xs : Nat → Int32) : Prop :=
  p.tables.exec = Jvm.exec ∧ c.code = code ∧ meth.sig.returnType = ret ∧ c.maxLocals = 4 ∧ s.vm.findClass R_law = some m.cls ∧ (∀ w ∈ lw_tbl, w.before #[Value.ref b] s = true) ∧ va_X b L xs s s.heap ∧ b < s.heap.size ∧ meth.locks = false ∧ (Jvm.Cond.and given_1 narrow_1).before #[Value.ref b] s = true
/-! THE LAW: rows for its script and its end, its loop; written by wip/gen/lawg.py -/
section EmLaw
variable {X : em_X} {D : va_G} {b0 : Nat} {cT : Nat → ClassId} {ad : Nat → Nat} {nL : Nat} {sh : Nat → em_Sh} {n kc ks : Nat} {M : em_M} {pc : Nat} {lv : List (Nat × Value)} {rest : List Value} {own : String} {cc : ByteArray} {ret' : Option FieldType} {rm : Room} {b L : Nat} {xs : Nat → Int32}
theorem g_sld (C : em_Cx X D b0 cT own cc ret' nL rm) {i : Int32} (hX : va_X b L xs (xS X) (xS X).heap) (hbl : b < (xS X).heap.size) (hb0 : b < b0) (hd : decode cc pc = .ok (.iaload, 1)) (hi : vp_in i L) (kk : em_G X D b0 cT ad nL sh n kc ks M (pc + 1) lv (.int (xs i.toNatClampNeg) :: rest)) : em_G X D b0 cT ad nL sh n kc ks M pc lv (.int i :: .ref b :: rest) :=
  fun ls H locs h1 h2 h3 => va_sld C.x C.b hX hbl (Nat.not_le.mpr hb0) h3 hi hd (kk ls H locs h1 h2 h3)
theorem g_slen (C : em_Cx X D b0 cT own cc ret' nL rm) (hX : va_X b L xs (xS X) (xS X).heap) (hbl : b < (xS X).heap.size) (hb0 : b < b0) (hd : decode cc pc = .ok (.arraylength, 1)) (kk : em_G X D b0 cT ad nL sh n kc ks M (pc + 1) lv (.int (Int32.ofNat L) :: rest)) : em_G X D b0 cT ad nL sh n kc ks M pc lv (.ref b :: rest) :=
  fun ls H locs h1 h2 h3 => va_slen C.x C.b hX hbl (Nat.not_le.mpr hb0) h3 hd (kk ls H locs h1 h2 h3)
theorem g_lawret (C : em_Cx X D b0 cT own code ret nL room_1) (hQ : xQ X = lw_Z (xB X) #[Value.ref b] (xS X)) (hA : xA X = #[Value.ref b]) (hbs : b0 = (xS X).heap.size) (hc : kc ≤ 600000 ∧ ks ≤ 7302250) (hd : decode code pc = .ok (.ireturn, 1)) : em_G X D b0 cT ad nL sh n kc ks M pc lv [.int 1] := by
  intro ls H locs h1 h2 h3
  rw [hQ]
  refine va_forget (fun q hq => by rw [← hbs]; exact h3.2.2 q hq) ?_
  refine W.widen hc.1 hc.2 ?_
  rw [C.R, hA]
  exact lw_ret C.x C.b C.r C.lk hd
end EmLaw
set_option maxHeartbeats 8000000 in
set_option maxRecDepth 100000 in
theorem v_LA_law {X : em_X} {D : va_G} {b0 : Nat} {cT : Nat → ClassId} {ad : Nat → Nat} {b L : Nat} {xs : Nat → Int32} {M : em_M} (hX : va_X b L xs (xS X) (xS X).heap) (hbl : b < (xS X).heap.size) (hb0 : b < b0) (hA : xA X = #[Value.ref b]) (hbs : b0 = (xS X).heap.size) (C : em_Cx X D b0 cT R_LA code ret 4 room_1) (hQ : xQ X = lw_Z (xB X) #[Value.ref b] (xS X)) (hw : wp_LA_law L xs M) : em_G X D b0 cT ad 4 (SH ad) NC 62 15112 M 16 [(2, .ref (ad 52)), (1, .ref (ad 0)), (0, .ref b)] [] := by
  unfold wp_LA_law at hw
  refine g_iconst (v := (nI 0)) C d_LA_law_16 (by decide) ?_
  refine g_istore_n (lv' := [(3, .int (nI 0)), (2, .ref (ad (52))), (1, .ref (ad (0))), (0, .ref b)]) C 3 d_LA_law_17 rfl (by decide) rfl ?_
  obtain ⟨I_1, mu_1, h0, hw⟩ := hw
  refine g_sub [3, 2, 1, 0] rfl ?_
  have lp_1 : ∀ (n_1 : Nat) (x3_2 : Int32) (M_3 : em_M) , mu_1 x3_2 M_3 < n_1 → I_1 x3_2 M_3 → em_G X D b0 cT ad 4 (SH ad) NC 62 15112 M_3 18 [(0, .ref b), (1, .ref (ad (0))), (2, .ref (ad (52))), (3, .int x3_2)] [] := by
    intro n_1
    induction n_1 with
    | zero => intro x3_2 M_3 h; exact absurd h (Nat.not_lt_zero _)
    | succ n_1 ih_1 =>
      intro x3_2 M_3 hn_1 hi
      have hw := hw x3_2 M_3 hi
      refine g_iload_n C 3 3 d_LA_law_18 rfl rfl ?_
      refine g_aload_n C 0 0 d_LA_law_19 rfl rfl ?_
      refine g_slen C hX hbl hb0 d_LA_law_20 ?_
      refine g_iconst (v := (nI 4)) C d_LA_law_21 (by decide) ?_
      refine g_isub C d_LA_law_22 ?_
      refine g_icmp_gt (tgt := 576) C d_LA_law_23 (by decide) (fun hc_4 => ?_) (fun hc_4 => ?_)
      · have hw := hw.1 hc_4
        refine g_iconst (v := (nI 1)) C d_LA_law_576 (by decide) ?_
        exact g_lawret C hQ hA hbs (by decide) d_LA_law_577
      · have hw := hw.2 hc_4
        refine g_aload_n C 0 0 d_LA_law_26 rfl rfl ?_
        refine g_iload_n C 3 3 d_LA_law_27 rfl rfl ?_
        obtain ⟨hb_5, hw⟩ := hw
        refine g_sld C hX hbl hb0 d_LA_law_28 hb_5 ?_
        refine g_bipush (v := (nI 15)) C d_LA_law_29 (by decide) ?_
        refine g_iand C d_LA_law_31 ?_
        refine g_topi (fun k_7 ek_7 => ?_)
        have hw := hw k_7 ek_7
        obtain ⟨hwd, hw⟩ := hw
        rcases em_ix k_7 (lo := 0) (hi := 16) (by decide) with hs_6 | hs_6 | ⟨jhs_6, hlhs_6, hjhs_6, hs_6⟩
        · have hw := hwd (Or.inl hs_6)
          refine g_tableOut (tgt := 570) C d_LA_law_32 (Or.inl (em_sw0 (by decide) hs_6)) (by decide) ?_
          obtain ⟨x3_8, ex3_8⟩ : ∃ y : Int32, y = x3_2 + nI 4 := ⟨_, rfl⟩
          have hw := hw x3_8 ex3_8
          refine g_iinc (v := x3_8) (lv' := [(3, .int x3_8), (0, .ref b), (1, .ref (ad (0))), (2, .ref (ad (52)))]) C 3 d_LA_law_570 rfl (by rw [ex3_8]; first | rfl | (congr 1)) (by decide) rfl ?_
          refine g_goto (tgt := 18) C d_LA_law_573 (by decide) ?_
          refine g_sub [1, 2, 3, 0] rfl ?_
          exact ih_1 x3_8 M_3 (Nat.lt_of_lt_of_le hw.2 (Nat.le_of_lt_succ hn_1)) hw.1
        · have hw := hwd (Or.inr hs_6)
          refine g_tableOut (tgt := 570) C d_LA_law_32 (Or.inr (em_sw1 (by decide) hs_6)) (by decide) ?_
          obtain ⟨x3_9, ex3_9⟩ : ∃ y : Int32, y = x3_2 + nI 4 := ⟨_, rfl⟩
          have hw := hw x3_9 ex3_9
          refine g_iinc (v := x3_9) (lv' := [(3, .int x3_9), (0, .ref b), (1, .ref (ad (0))), (2, .ref (ad (52)))]) C 3 d_LA_law_570 rfl (by rw [ex3_9]; first | rfl | (congr 1)) (by decide) rfl ?_
          refine g_goto (tgt := 18) C d_LA_law_573 (by decide) ?_
          refine g_sub [1, 2, 3, 0] rfl ?_
          exact ih_1 x3_9 M_3 (Nat.lt_of_lt_of_le hw.2 (Nat.le_of_lt_succ hn_1)) hw.1
        · have hw := hw
          rcases (show jhs_6 = 0 ∨ jhs_6 = 1 ∨ jhs_6 = 2 ∨ jhs_6 = 3 ∨ jhs_6 = 4 ∨ jhs_6 = 5 ∨ jhs_6 = 6 ∨ jhs_6 = 7 ∨ jhs_6 = 8 ∨ jhs_6 = 9 ∨ jhs_6 = 10 ∨ jhs_6 = 11 ∨ jhs_6 = 12 ∨ jhs_6 = 13 ∨ jhs_6 = 14 ∨ jhs_6 = 15 by omega) with rfl | rfl | rfl | rfl | rfl | rfl | rfl | rfl | rfl | rfl | rfl | rfl | rfl | rfl | rfl | rfl
          · have hw := hw.1 hs_6
            refine g_tableIn (tgt := 112) (off := 80) C d_LA_law_32 (by rw [hs_6]; decide) (by rw [hs_6]; decide) (by rw [hs_6]; rfl) (by decide) ?_
            refine g_aload_n C 1 1 d_LA_law_112 rfl rfl ?_
            refine g_aload_n C 0 0 d_LA_law_113 rfl rfl ?_
            refine g_iload_n C 3 3 d_LA_law_114 rfl rfl ?_
            refine g_iconst (v := (nI 1)) C d_LA_law_115 (by decide) ?_
            refine g_iadd C d_LA_law_116 ?_
            obtain ⟨hb_10, hw⟩ := hw
            refine g_sld C hX hbl hb0 d_LA_law_117 hb_10 ?_
            refine g_aload_n C 0 0 d_LA_law_118 rfl rfl ?_
            refine g_iload_n C 3 3 d_LA_law_119 rfl rfl ?_
            refine g_iconst (v := (nI 2)) C d_LA_law_120 (by decide) ?_
            refine g_iadd C d_LA_law_121 ?_
            obtain ⟨hb_11, hw⟩ := hw
            refine g_sld C hX hbl hb0 d_LA_law_122 hb_11 ?_
            refine g_aload_n C 0 0 d_LA_law_123 rfl rfl ?_
            refine g_iload_n C 3 3 d_LA_law_124 rfl rfl ?_
            refine g_iconst (v := (nI 3)) C d_LA_law_125 (by decide) ?_
            refine g_iadd C d_LA_law_126 ?_
            obtain ⟨hb_12, hw⟩ := hw
            refine g_sld C hX hbl hb0 d_LA_law_127 hb_12 ?_
            refine g_callVi C 0 rfl [.int (xs (x3_2 + (nI 1)).toNatClampNeg), .int (xs (x3_2 + (nI 2)).toNatClampNeg), .int (xs (x3_2 + (nI 3)).toNatClampNeg)] [] (c_BE_entry  hw) (em_cwV C 3 mw_197 mw_198 mw_199 mw_64 mw_200 rfl rfl (by decide +kernel) (by decide)) em_nc_BE em_sh_BE rfl rfl rfl (Nat.le_of_ble_eq_true rfl) d_LA_law_128 (by decide) (fun r_14 M_13 hw => ?_)
            refine g_aload_n C 2 2 d_LA_law_131 rfl rfl ?_
            refine g_aload_n C 0 0 d_LA_law_132 rfl rfl ?_
            refine g_iload_n C 3 3 d_LA_law_133 rfl rfl ?_
            refine g_iconst (v := (nI 1)) C d_LA_law_134 (by decide) ?_
            refine g_iadd C d_LA_law_135 ?_
            refine g_sld C hX hbl hb0 d_LA_law_136 hb_10 ?_
            refine g_aload_n C 0 0 d_LA_law_137 rfl rfl ?_
            refine g_iload_n C 3 3 d_LA_law_138 rfl rfl ?_
            refine g_iconst (v := (nI 2)) C d_LA_law_139 (by decide) ?_
            refine g_iadd C d_LA_law_140 ?_
            refine g_sld C hX hbl hb0 d_LA_law_141 hb_11 ?_
            refine g_aload_n C 0 0 d_LA_law_142 rfl rfl ?_
            refine g_iload_n C 3 3 d_LA_law_143 rfl rfl ?_
            refine g_iconst (v := (nI 3)) C d_LA_law_144 (by decide) ?_
            refine g_iadd C d_LA_law_145 ?_
            refine g_sld C hX hbl hb0 d_LA_law_146 hb_12 ?_
            refine g_callVi C 52 rfl [.int (xs (x3_2 + (nI 1)).toNatClampNeg), .int (xs (x3_2 + (nI 2)).toNatClampNeg), .int (xs (x3_2 + (nI 3)).toNatClampNeg)] [.int r_14] (c_MD_entry  hw) (em_cwV C 3 mw_449 mw_450 mw_451 mw_71 mw_452 rfl rfl (by decide +kernel) (by decide)) em_nc_MD em_sh_MD rfl rfl rfl (Nat.le_of_ble_eq_true rfl) d_LA_law_147 (by decide) (fun r_16 M_15 hw => ?_)
            refine g_icmp_eq (tgt := 570) C d_LA_law_150 (by decide) (fun hc_17 => ?_) (fun hc_17 => ?_)
            · have hw := hw.1 hc_17
              obtain ⟨x3_18, ex3_18⟩ : ∃ y : Int32, y = x3_2 + nI 4 := ⟨_, rfl⟩
              have hw := hw x3_18 ex3_18
              refine g_iinc (v := x3_18) (lv' := [(3, .int x3_18), (0, .ref b), (1, .ref (ad (0))), (2, .ref (ad (52)))]) C 3 d_LA_law_570 rfl (by rw [ex3_18]; first | rfl | (congr 1)) (by decide) rfl ?_
              refine g_goto (tgt := 18) C d_LA_law_573 (by decide) ?_
              refine g_sub [1, 2, 3, 0] rfl ?_
              exact ih_1 x3_18 M_15 (Nat.lt_of_lt_of_le hw.2 (Nat.le_of_lt_succ hn_1)) hw.1
            · have hw := hw.2 hc_17
              refine g_iconst (v := (nI 0)) C d_LA_law_153 (by decide) ?_
              exact absurd hw (by decide)
          · have hw := hw.2.1 hs_6
            refine g_tableIn (tgt := 155) (off := 123) C d_LA_law_32 (by rw [hs_6]; decide) (by rw [hs_6]; decide) (by rw [hs_6]; rfl) (by decide) ?_
            refine g_aload_n C 1 1 d_LA_law_155 rfl rfl ?_
            refine g_aload_n C 0 0 d_LA_law_156 rfl rfl ?_
            refine g_iload_n C 3 3 d_LA_law_157 rfl rfl ?_
            refine g_iconst (v := (nI 1)) C d_LA_law_158 (by decide) ?_
            refine g_iadd C d_LA_law_159 ?_
            obtain ⟨hb_19, hw⟩ := hw
            refine g_sld C hX hbl hb0 d_LA_law_160 hb_19 ?_
            refine g_aload_n C 0 0 d_LA_law_161 rfl rfl ?_
            refine g_iload_n C 3 3 d_LA_law_162 rfl rfl ?_
            refine g_iconst (v := (nI 2)) C d_LA_law_163 (by decide) ?_
            refine g_iadd C d_LA_law_164 ?_
            obtain ⟨hb_20, hw⟩ := hw
            refine g_sld C hX hbl hb0 d_LA_law_165 hb_20 ?_
            refine g_callVi C 0 rfl [.int (xs (x3_2 + (nI 1)).toNatClampNeg), .int (xs (x3_2 + (nI 2)).toNatClampNeg)] [] (c_BE_lose  hw) (em_cwV C 2 mw_218 mw_219 mw_220 mw_64 mw_221 rfl rfl (by decide +kernel) (by decide)) em_nc_BE em_sh_BE rfl rfl rfl (Nat.le_of_ble_eq_true rfl) d_LA_law_166 (by decide) (fun r_22 M_21 hw => ?_)
            refine g_aload_n C 2 2 d_LA_law_169 rfl rfl ?_
            refine g_aload_n C 0 0 d_LA_law_170 rfl rfl ?_
            refine g_iload_n C 3 3 d_LA_law_171 rfl rfl ?_
            refine g_iconst (v := (nI 1)) C d_LA_law_172 (by decide) ?_
            refine g_iadd C d_LA_law_173 ?_
            refine g_sld C hX hbl hb0 d_LA_law_174 hb_19 ?_
            refine g_aload_n C 0 0 d_LA_law_175 rfl rfl ?_
            refine g_iload_n C 3 3 d_LA_law_176 rfl rfl ?_
            refine g_iconst (v := (nI 2)) C d_LA_law_177 (by decide) ?_
            refine g_iadd C d_LA_law_178 ?_
            refine g_sld C hX hbl hb0 d_LA_law_179 hb_20 ?_
            refine g_callVi C 52 rfl [.int (xs (x3_2 + (nI 1)).toNatClampNeg), .int (xs (x3_2 + (nI 2)).toNatClampNeg)] [.int r_22] (c_MD_lose  hw) (em_cwV C 2 mw_462 mw_463 mw_464 mw_71 mw_465 rfl rfl (by decide +kernel) (by decide)) em_nc_MD em_sh_MD rfl rfl rfl (Nat.le_of_ble_eq_true rfl) d_LA_law_180 (by decide) (fun r_24 M_23 hw => ?_)
            refine g_icmp_eq (tgt := 570) C d_LA_law_183 (by decide) (fun hc_25 => ?_) (fun hc_25 => ?_)
            · have hw := hw.1 hc_25
              obtain ⟨x3_26, ex3_26⟩ : ∃ y : Int32, y = x3_2 + nI 4 := ⟨_, rfl⟩
              have hw := hw x3_26 ex3_26
              refine g_iinc (v := x3_26) (lv' := [(3, .int x3_26), (0, .ref b), (1, .ref (ad (0))), (2, .ref (ad (52)))]) C 3 d_LA_law_570 rfl (by rw [ex3_26]; first | rfl | (congr 1)) (by decide) rfl ?_
              refine g_goto (tgt := 18) C d_LA_law_573 (by decide) ?_
              refine g_sub [1, 2, 3, 0] rfl ?_
              exact ih_1 x3_26 M_23 (Nat.lt_of_lt_of_le hw.2 (Nat.le_of_lt_succ hn_1)) hw.1
            · have hw := hw.2 hc_25
              refine g_iconst (v := (nI 0)) C d_LA_law_186 (by decide) ?_
              exact absurd hw (by decide)
          · have hw := hw.2.2.1 hs_6
            refine g_tableIn (tgt := 188) (off := 156) C d_LA_law_32 (by rw [hs_6]; decide) (by rw [hs_6]; decide) (by rw [hs_6]; rfl) (by decide) ?_
            refine g_aload_n C 1 1 d_LA_law_188 rfl rfl ?_
            refine g_aload_n C 0 0 d_LA_law_189 rfl rfl ?_
            refine g_iload_n C 3 3 d_LA_law_190 rfl rfl ?_
            refine g_iconst (v := (nI 1)) C d_LA_law_191 (by decide) ?_
            refine g_iadd C d_LA_law_192 ?_
            obtain ⟨hb_27, hw⟩ := hw
            refine g_sld C hX hbl hb0 d_LA_law_193 hb_27 ?_
            refine g_aload_n C 0 0 d_LA_law_194 rfl rfl ?_
            refine g_iload_n C 3 3 d_LA_law_195 rfl rfl ?_
            refine g_iconst (v := (nI 2)) C d_LA_law_196 (by decide) ?_
            refine g_iadd C d_LA_law_197 ?_
            obtain ⟨hb_28, hw⟩ := hw
            refine g_sld C hX hbl hb0 d_LA_law_198 hb_28 ?_
            refine g_callVi C 0 rfl [.int (xs (x3_2 + (nI 1)).toNatClampNeg), .int (xs (x3_2 + (nI 2)).toNatClampNeg)] [] (c_BE_key  hw) (em_cwV C 2 mw_224 mw_225 mw_226 mw_64 mw_227 rfl rfl (by decide +kernel) (by decide)) em_nc_BE em_sh_BE rfl rfl rfl (Nat.le_of_ble_eq_true rfl) d_LA_law_199 (by decide) (fun r_30 M_29 hw => ?_)
            refine g_aload_n C 2 2 d_LA_law_202 rfl rfl ?_
            refine g_aload_n C 0 0 d_LA_law_203 rfl rfl ?_
            refine g_iload_n C 3 3 d_LA_law_204 rfl rfl ?_
            refine g_iconst (v := (nI 1)) C d_LA_law_205 (by decide) ?_
            refine g_iadd C d_LA_law_206 ?_
            refine g_sld C hX hbl hb0 d_LA_law_207 hb_27 ?_
            refine g_aload_n C 0 0 d_LA_law_208 rfl rfl ?_
            refine g_iload_n C 3 3 d_LA_law_209 rfl rfl ?_
            refine g_iconst (v := (nI 2)) C d_LA_law_210 (by decide) ?_
            refine g_iadd C d_LA_law_211 ?_
            refine g_sld C hX hbl hb0 d_LA_law_212 hb_28 ?_
            refine g_callVi C 52 rfl [.int (xs (x3_2 + (nI 1)).toNatClampNeg), .int (xs (x3_2 + (nI 2)).toNatClampNeg)] [.int r_30] (c_MD_key  hw) (em_cwV C 2 mw_466 mw_467 mw_468 mw_71 mw_469 rfl rfl (by decide +kernel) (by decide)) em_nc_MD em_sh_MD rfl rfl rfl (Nat.le_of_ble_eq_true rfl) d_LA_law_213 (by decide) (fun r_32 M_31 hw => ?_)
            refine g_icmp_eq (tgt := 570) C d_LA_law_216 (by decide) (fun hc_33 => ?_) (fun hc_33 => ?_)
            · have hw := hw.1 hc_33
              obtain ⟨x3_34, ex3_34⟩ : ∃ y : Int32, y = x3_2 + nI 4 := ⟨_, rfl⟩
              have hw := hw x3_34 ex3_34
              refine g_iinc (v := x3_34) (lv' := [(3, .int x3_34), (0, .ref b), (1, .ref (ad (0))), (2, .ref (ad (52)))]) C 3 d_LA_law_570 rfl (by rw [ex3_34]; first | rfl | (congr 1)) (by decide) rfl ?_
              refine g_goto (tgt := 18) C d_LA_law_573 (by decide) ?_
              refine g_sub [1, 2, 3, 0] rfl ?_
              exact ih_1 x3_34 M_31 (Nat.lt_of_lt_of_le hw.2 (Nat.le_of_lt_succ hn_1)) hw.1
            · have hw := hw.2 hc_33
              refine g_iconst (v := (nI 0)) C d_LA_law_219 (by decide) ?_
              exact absurd hw (by decide)
          · have hw := hw.2.2.2.1 hs_6
            refine g_tableIn (tgt := 221) (off := 189) C d_LA_law_32 (by rw [hs_6]; decide) (by rw [hs_6]; decide) (by rw [hs_6]; rfl) (by decide) ?_
            refine g_aload_n C 1 1 d_LA_law_221 rfl rfl ?_
            refine g_aload_n C 0 0 d_LA_law_222 rfl rfl ?_
            refine g_iload_n C 3 3 d_LA_law_223 rfl rfl ?_
            refine g_iconst (v := (nI 1)) C d_LA_law_224 (by decide) ?_
            refine g_iadd C d_LA_law_225 ?_
            obtain ⟨hb_35, hw⟩ := hw
            refine g_sld C hX hbl hb0 d_LA_law_226 hb_35 ?_
            refine g_aload_n C 0 0 d_LA_law_227 rfl rfl ?_
            refine g_iload_n C 3 3 d_LA_law_228 rfl rfl ?_
            refine g_iconst (v := (nI 2)) C d_LA_law_229 (by decide) ?_
            refine g_iadd C d_LA_law_230 ?_
            obtain ⟨hb_36, hw⟩ := hw
            refine g_sld C hX hbl hb0 d_LA_law_231 hb_36 ?_
            refine g_callVi C 0 rfl [.int (xs (x3_2 + (nI 1)).toNatClampNeg), .int (xs (x3_2 + (nI 2)).toNatClampNeg)] [] (c_BE_top  hw) (em_cwV C 2 mw_228 mw_229 mw_230 mw_64 mw_231 rfl rfl (by decide +kernel) (by decide)) em_nc_BE em_sh_BE rfl rfl rfl (Nat.le_of_ble_eq_true rfl) d_LA_law_232 (by decide) (fun r_38 M_37 hw => ?_)
            obtain ⟨rfl, hw⟩ := hw
            refine g_aload_n C 2 2 d_LA_law_235 rfl rfl ?_
            refine g_aload_n C 0 0 d_LA_law_236 rfl rfl ?_
            refine g_iload_n C 3 3 d_LA_law_237 rfl rfl ?_
            refine g_iconst (v := (nI 1)) C d_LA_law_238 (by decide) ?_
            refine g_iadd C d_LA_law_239 ?_
            refine g_sld C hX hbl hb0 d_LA_law_240 hb_35 ?_
            refine g_aload_n C 0 0 d_LA_law_241 rfl rfl ?_
            refine g_iload_n C 3 3 d_LA_law_242 rfl rfl ?_
            refine g_iconst (v := (nI 2)) C d_LA_law_243 (by decide) ?_
            refine g_iadd C d_LA_law_244 ?_
            refine g_sld C hX hbl hb0 d_LA_law_245 hb_36 ?_
            refine g_callVi C 52 rfl [.int (xs (x3_2 + (nI 1)).toNatClampNeg), .int (xs (x3_2 + (nI 2)).toNatClampNeg)] [.int r_38] (c_MD_top  hw) (em_cwV C 2 mw_470 mw_471 mw_472 mw_71 mw_473 rfl rfl (by decide +kernel) (by decide)) em_nc_MD em_sh_MD rfl rfl rfl (Nat.le_of_ble_eq_true rfl) d_LA_law_246 (by decide) (fun r_40 M_39 hw => ?_)
            refine g_icmp_eq (tgt := 570) C d_LA_law_249 (by decide) (fun hc_41 => ?_) (fun hc_41 => ?_)
            · have hw := hw.1 hc_41
              obtain ⟨x3_42, ex3_42⟩ : ∃ y : Int32, y = x3_2 + nI 4 := ⟨_, rfl⟩
              have hw := hw x3_42 ex3_42
              refine g_iinc (v := x3_42) (lv' := [(3, .int x3_42), (0, .ref b), (1, .ref (ad (0))), (2, .ref (ad (52)))]) C 3 d_LA_law_570 rfl (by rw [ex3_42]; first | rfl | (congr 1)) (by decide) rfl ?_
              refine g_goto (tgt := 18) C d_LA_law_573 (by decide) ?_
              refine g_sub [1, 2, 3, 0] rfl ?_
              exact ih_1 x3_42 M_39 (Nat.lt_of_lt_of_le hw.2 (Nat.le_of_lt_succ hn_1)) hw.1
            · have hw := hw.2 hc_41
              refine g_iconst (v := (nI 0)) C d_LA_law_252 (by decide) ?_
              exact absurd hw (by decide)
          · have hw := hw.2.2.2.2.1 hs_6
            refine g_tableIn (tgt := 254) (off := 222) C d_LA_law_32 (by rw [hs_6]; decide) (by rw [hs_6]; decide) (by rw [hs_6]; rfl) (by decide) ?_
            refine g_aload_n C 1 1 d_LA_law_254 rfl rfl ?_
            refine g_aload_n C 0 0 d_LA_law_255 rfl rfl ?_
            refine g_iload_n C 3 3 d_LA_law_256 rfl rfl ?_
            refine g_iconst (v := (nI 1)) C d_LA_law_257 (by decide) ?_
            refine g_iadd C d_LA_law_258 ?_
            obtain ⟨hb_43, hw⟩ := hw
            refine g_sld C hX hbl hb0 d_LA_law_259 hb_43 ?_
            refine g_aload_n C 0 0 d_LA_law_260 rfl rfl ?_
            refine g_iload_n C 3 3 d_LA_law_261 rfl rfl ?_
            refine g_iconst (v := (nI 2)) C d_LA_law_262 (by decide) ?_
            refine g_iadd C d_LA_law_263 ?_
            obtain ⟨hb_44, hw⟩ := hw
            refine g_sld C hX hbl hb0 d_LA_law_264 hb_44 ?_
            refine g_aload_n C 0 0 d_LA_law_265 rfl rfl ?_
            refine g_iload_n C 3 3 d_LA_law_266 rfl rfl ?_
            refine g_iconst (v := (nI 3)) C d_LA_law_267 (by decide) ?_
            refine g_iadd C d_LA_law_268 ?_
            obtain ⟨hb_45, hw⟩ := hw
            refine g_sld C hX hbl hb0 d_LA_law_269 hb_45 ?_
            refine g_callVi C 0 rfl [.int (xs (x3_2 + (nI 1)).toNatClampNeg), .int (xs (x3_2 + (nI 2)).toNatClampNeg), .int (xs (x3_2 + (nI 3)).toNatClampNeg)] [] (c_BE_ask  hw) (em_cwV C 3 mw_250 mw_251 mw_252 mw_64 mw_253 rfl rfl (by decide +kernel) (by decide)) em_nc_BE em_sh_BE rfl rfl rfl (Nat.le_of_ble_eq_true rfl) d_LA_law_270 (by decide) (fun r_47 M_46 hw => ?_)
            refine g_aload_n C 2 2 d_LA_law_273 rfl rfl ?_
            refine g_aload_n C 0 0 d_LA_law_274 rfl rfl ?_
            refine g_iload_n C 3 3 d_LA_law_275 rfl rfl ?_
            refine g_iconst (v := (nI 1)) C d_LA_law_276 (by decide) ?_
            refine g_iadd C d_LA_law_277 ?_
            refine g_sld C hX hbl hb0 d_LA_law_278 hb_43 ?_
            refine g_aload_n C 0 0 d_LA_law_279 rfl rfl ?_
            refine g_iload_n C 3 3 d_LA_law_280 rfl rfl ?_
            refine g_iconst (v := (nI 2)) C d_LA_law_281 (by decide) ?_
            refine g_iadd C d_LA_law_282 ?_
            refine g_sld C hX hbl hb0 d_LA_law_283 hb_44 ?_
            refine g_aload_n C 0 0 d_LA_law_284 rfl rfl ?_
            refine g_iload_n C 3 3 d_LA_law_285 rfl rfl ?_
            refine g_iconst (v := (nI 3)) C d_LA_law_286 (by decide) ?_
            refine g_iadd C d_LA_law_287 ?_
            refine g_sld C hX hbl hb0 d_LA_law_288 hb_45 ?_
            refine g_callVi C 52 rfl [.int (xs (x3_2 + (nI 1)).toNatClampNeg), .int (xs (x3_2 + (nI 2)).toNatClampNeg), .int (xs (x3_2 + (nI 3)).toNatClampNeg)] [.int r_47] (c_MD_ask  hw) (em_cwV C 3 mw_477 mw_478 mw_479 mw_71 mw_480 rfl rfl (by decide +kernel) (by decide)) em_nc_MD em_sh_MD rfl rfl rfl (Nat.le_of_ble_eq_true rfl) d_LA_law_289 (by decide) (fun r_49 M_48 hw => ?_)
            refine g_icmp_eq (tgt := 570) C d_LA_law_292 (by decide) (fun hc_50 => ?_) (fun hc_50 => ?_)
            · have hw := hw.1 hc_50
              obtain ⟨x3_51, ex3_51⟩ : ∃ y : Int32, y = x3_2 + nI 4 := ⟨_, rfl⟩
              have hw := hw x3_51 ex3_51
              refine g_iinc (v := x3_51) (lv' := [(3, .int x3_51), (0, .ref b), (1, .ref (ad (0))), (2, .ref (ad (52)))]) C 3 d_LA_law_570 rfl (by rw [ex3_51]; first | rfl | (congr 1)) (by decide) rfl ?_
              refine g_goto (tgt := 18) C d_LA_law_573 (by decide) ?_
              refine g_sub [1, 2, 3, 0] rfl ?_
              exact ih_1 x3_51 M_48 (Nat.lt_of_lt_of_le hw.2 (Nat.le_of_lt_succ hn_1)) hw.1
            · have hw := hw.2 hc_50
              refine g_iconst (v := (nI 0)) C d_LA_law_295 (by decide) ?_
              exact absurd hw (by decide)
          · have hw := hw.2.2.2.2.2.1 hs_6
            refine g_tableIn (tgt := 297) (off := 265) C d_LA_law_32 (by rw [hs_6]; decide) (by rw [hs_6]; decide) (by rw [hs_6]; rfl) (by decide) ?_
            refine g_aload_n C 1 1 d_LA_law_297 rfl rfl ?_
            refine g_aload_n C 0 0 d_LA_law_298 rfl rfl ?_
            refine g_iload_n C 3 3 d_LA_law_299 rfl rfl ?_
            refine g_iconst (v := (nI 1)) C d_LA_law_300 (by decide) ?_
            refine g_iadd C d_LA_law_301 ?_
            obtain ⟨hb_52, hw⟩ := hw
            refine g_sld C hX hbl hb0 d_LA_law_302 hb_52 ?_
            refine g_callVi C 0 rfl [.int (xs (x3_2 + (nI 1)).toNatClampNeg)] [] (c_BE_wanted  hw) (em_cwV C 1 mw_254 mw_255 mw_256 mw_64 mw_257 rfl rfl (by decide +kernel) (by decide)) em_nc_BE em_sh_BE rfl rfl rfl (Nat.le_of_ble_eq_true rfl) d_LA_law_303 (by decide) (fun r_54 M_53 hw => ?_)
            refine g_aload_n C 2 2 d_LA_law_306 rfl rfl ?_
            refine g_aload_n C 0 0 d_LA_law_307 rfl rfl ?_
            refine g_iload_n C 3 3 d_LA_law_308 rfl rfl ?_
            refine g_iconst (v := (nI 1)) C d_LA_law_309 (by decide) ?_
            refine g_iadd C d_LA_law_310 ?_
            refine g_sld C hX hbl hb0 d_LA_law_311 hb_52 ?_
            refine g_callVi C 52 rfl [.int (xs (x3_2 + (nI 1)).toNatClampNeg)] [.int r_54] (c_MD_wanted  hw) (em_cwV C 1 mw_481 mw_482 mw_483 mw_71 mw_484 rfl rfl (by decide +kernel) (by decide)) em_nc_MD em_sh_MD rfl rfl rfl (Nat.le_of_ble_eq_true rfl) d_LA_law_312 (by decide) (fun r_56 M_55 hw => ?_)
            refine g_icmp_eq (tgt := 570) C d_LA_law_315 (by decide) (fun hc_57 => ?_) (fun hc_57 => ?_)
            · have hw := hw.1 hc_57
              obtain ⟨x3_58, ex3_58⟩ : ∃ y : Int32, y = x3_2 + nI 4 := ⟨_, rfl⟩
              have hw := hw x3_58 ex3_58
              refine g_iinc (v := x3_58) (lv' := [(3, .int x3_58), (0, .ref b), (1, .ref (ad (0))), (2, .ref (ad (52)))]) C 3 d_LA_law_570 rfl (by rw [ex3_58]; first | rfl | (congr 1)) (by decide) rfl ?_
              refine g_goto (tgt := 18) C d_LA_law_573 (by decide) ?_
              refine g_sub [1, 2, 3, 0] rfl ?_
              exact ih_1 x3_58 M_55 (Nat.lt_of_lt_of_le hw.2 (Nat.le_of_lt_succ hn_1)) hw.1
            · have hw := hw.2 hc_57
              refine g_iconst (v := (nI 0)) C d_LA_law_318 (by decide) ?_
              exact absurd hw (by decide)
          · have hw := hw.2.2.2.2.2.2.1 hs_6
            refine g_tableIn (tgt := 320) (off := 288) C d_LA_law_32 (by rw [hs_6]; decide) (by rw [hs_6]; decide) (by rw [hs_6]; rfl) (by decide) ?_
            refine g_aload_n C 1 1 d_LA_law_320 rfl rfl ?_
            refine g_aload_n C 0 0 d_LA_law_321 rfl rfl ?_
            refine g_iload_n C 3 3 d_LA_law_322 rfl rfl ?_
            refine g_iconst (v := (nI 1)) C d_LA_law_323 (by decide) ?_
            refine g_iadd C d_LA_law_324 ?_
            obtain ⟨hb_59, hw⟩ := hw
            refine g_sld C hX hbl hb0 d_LA_law_325 hb_59 ?_
            refine g_aload_n C 0 0 d_LA_law_326 rfl rfl ?_
            refine g_iload_n C 3 3 d_LA_law_327 rfl rfl ?_
            refine g_iconst (v := (nI 2)) C d_LA_law_328 (by decide) ?_
            refine g_iadd C d_LA_law_329 ?_
            obtain ⟨hb_60, hw⟩ := hw
            refine g_sld C hX hbl hb0 d_LA_law_330 hb_60 ?_
            refine g_callVi C 0 rfl [.int (xs (x3_2 + (nI 1)).toNatClampNeg), .int (xs (x3_2 + (nI 2)).toNatClampNeg)] [] (c_BE_place  hw) (em_cwV C 2 mw_258 mw_259 mw_260 mw_64 mw_261 rfl rfl (by decide +kernel) (by decide)) em_nc_BE em_sh_BE rfl rfl rfl (Nat.le_of_ble_eq_true rfl) d_LA_law_331 (by decide) (fun r_62 M_61 hw => ?_)
            refine g_aload_n C 2 2 d_LA_law_334 rfl rfl ?_
            refine g_aload_n C 0 0 d_LA_law_335 rfl rfl ?_
            refine g_iload_n C 3 3 d_LA_law_336 rfl rfl ?_
            refine g_iconst (v := (nI 1)) C d_LA_law_337 (by decide) ?_
            refine g_iadd C d_LA_law_338 ?_
            refine g_sld C hX hbl hb0 d_LA_law_339 hb_59 ?_
            refine g_aload_n C 0 0 d_LA_law_340 rfl rfl ?_
            refine g_iload_n C 3 3 d_LA_law_341 rfl rfl ?_
            refine g_iconst (v := (nI 2)) C d_LA_law_342 (by decide) ?_
            refine g_iadd C d_LA_law_343 ?_
            refine g_sld C hX hbl hb0 d_LA_law_344 hb_60 ?_
            refine g_callVi C 52 rfl [.int (xs (x3_2 + (nI 1)).toNatClampNeg), .int (xs (x3_2 + (nI 2)).toNatClampNeg)] [.int r_62] (c_MD_place  hw) (em_cwV C 2 mw_485 mw_486 mw_487 mw_71 mw_488 rfl rfl (by decide +kernel) (by decide)) em_nc_MD em_sh_MD rfl rfl rfl (Nat.le_of_ble_eq_true rfl) d_LA_law_345 (by decide) (fun r_64 M_63 hw => ?_)
            refine g_icmp_eq (tgt := 570) C d_LA_law_348 (by decide) (fun hc_65 => ?_) (fun hc_65 => ?_)
            · have hw := hw.1 hc_65
              obtain ⟨x3_66, ex3_66⟩ : ∃ y : Int32, y = x3_2 + nI 4 := ⟨_, rfl⟩
              have hw := hw x3_66 ex3_66
              refine g_iinc (v := x3_66) (lv' := [(3, .int x3_66), (0, .ref b), (1, .ref (ad (0))), (2, .ref (ad (52)))]) C 3 d_LA_law_570 rfl (by rw [ex3_66]; first | rfl | (congr 1)) (by decide) rfl ?_
              refine g_goto (tgt := 18) C d_LA_law_573 (by decide) ?_
              refine g_sub [1, 2, 3, 0] rfl ?_
              exact ih_1 x3_66 M_63 (Nat.lt_of_lt_of_le hw.2 (Nat.le_of_lt_succ hn_1)) hw.1
            · have hw := hw.2 hc_65
              refine g_iconst (v := (nI 0)) C d_LA_law_351 (by decide) ?_
              exact absurd hw (by decide)
          · have hw := hw.2.2.2.2.2.2.2.1 hs_6
            refine g_tableIn (tgt := 353) (off := 321) C d_LA_law_32 (by rw [hs_6]; decide) (by rw [hs_6]; decide) (by rw [hs_6]; rfl) (by decide) ?_
            refine g_aload_n C 1 1 d_LA_law_353 rfl rfl ?_
            refine g_aload_n C 0 0 d_LA_law_354 rfl rfl ?_
            refine g_iload_n C 3 3 d_LA_law_355 rfl rfl ?_
            refine g_iconst (v := (nI 1)) C d_LA_law_356 (by decide) ?_
            refine g_iadd C d_LA_law_357 ?_
            obtain ⟨hb_67, hw⟩ := hw
            refine g_sld C hX hbl hb0 d_LA_law_358 hb_67 ?_
            refine g_callVi C 0 rfl [.int (xs (x3_2 + (nI 1)).toNatClampNeg)] [] (c_BE_fits  hw) (em_cwV C 1 mw_262 mw_263 mw_264 mw_64 mw_265 rfl rfl (by decide +kernel) (by decide)) em_nc_BE em_sh_BE rfl rfl rfl (Nat.le_of_ble_eq_true rfl) d_LA_law_359 (by decide) (fun r_69 M_68 hw => ?_)
            obtain ⟨rfl, hw⟩ := hw
            refine g_aload_n C 2 2 d_LA_law_362 rfl rfl ?_
            refine g_aload_n C 0 0 d_LA_law_363 rfl rfl ?_
            refine g_iload_n C 3 3 d_LA_law_364 rfl rfl ?_
            refine g_iconst (v := (nI 1)) C d_LA_law_365 (by decide) ?_
            refine g_iadd C d_LA_law_366 ?_
            refine g_sld C hX hbl hb0 d_LA_law_367 hb_67 ?_
            refine g_callVi C 52 rfl [.int (xs (x3_2 + (nI 1)).toNatClampNeg)] [.int r_69] (c_MD_fits  hw) (em_cwV C 1 mw_489 mw_490 mw_491 mw_71 mw_492 rfl rfl (by decide +kernel) (by decide)) em_nc_MD em_sh_MD rfl rfl rfl (Nat.le_of_ble_eq_true rfl) d_LA_law_368 (by decide) (fun r_71 M_70 hw => ?_)
            refine g_icmp_eq (tgt := 570) C d_LA_law_371 (by decide) (fun hc_72 => ?_) (fun hc_72 => ?_)
            · have hw := hw.1 hc_72
              obtain ⟨x3_73, ex3_73⟩ : ∃ y : Int32, y = x3_2 + nI 4 := ⟨_, rfl⟩
              have hw := hw x3_73 ex3_73
              refine g_iinc (v := x3_73) (lv' := [(3, .int x3_73), (0, .ref b), (1, .ref (ad (0))), (2, .ref (ad (52)))]) C 3 d_LA_law_570 rfl (by rw [ex3_73]; first | rfl | (congr 1)) (by decide) rfl ?_
              refine g_goto (tgt := 18) C d_LA_law_573 (by decide) ?_
              refine g_sub [1, 2, 3, 0] rfl ?_
              exact ih_1 x3_73 M_70 (Nat.lt_of_lt_of_le hw.2 (Nat.le_of_lt_succ hn_1)) hw.1
            · have hw := hw.2 hc_72
              refine g_iconst (v := (nI 0)) C d_LA_law_374 (by decide) ?_
              exact absurd hw (by decide)
          · have hw := hw.2.2.2.2.2.2.2.2.1 hs_6
            refine g_tableIn (tgt := 376) (off := 344) C d_LA_law_32 (by rw [hs_6]; decide) (by rw [hs_6]; decide) (by rw [hs_6]; rfl) (by decide) ?_
            refine g_aload_n C 1 1 d_LA_law_376 rfl rfl ?_
            refine g_aload_n C 0 0 d_LA_law_377 rfl rfl ?_
            refine g_iload_n C 3 3 d_LA_law_378 rfl rfl ?_
            refine g_iconst (v := (nI 1)) C d_LA_law_379 (by decide) ?_
            refine g_iadd C d_LA_law_380 ?_
            obtain ⟨hb_74, hw⟩ := hw
            refine g_sld C hX hbl hb0 d_LA_law_381 hb_74 ?_
            refine g_callVi C 0 rfl [.int (xs (x3_2 + (nI 1)).toNatClampNeg)] [] (c_BE_sum  hw) (em_cwV C 1 mw_271 mw_272 mw_273 mw_64 mw_274 rfl rfl (by decide +kernel) (by decide)) em_nc_BE em_sh_BE rfl rfl rfl (Nat.le_of_ble_eq_true rfl) d_LA_law_382 (by decide) (fun r_76 M_75 hw => ?_)
            obtain ⟨rfl, hw⟩ := hw
            refine g_aload_n C 2 2 d_LA_law_385 rfl rfl ?_
            refine g_aload_n C 0 0 d_LA_law_386 rfl rfl ?_
            refine g_iload_n C 3 3 d_LA_law_387 rfl rfl ?_
            refine g_iconst (v := (nI 1)) C d_LA_law_388 (by decide) ?_
            refine g_iadd C d_LA_law_389 ?_
            refine g_sld C hX hbl hb0 d_LA_law_390 hb_74 ?_
            refine g_callVi C 52 rfl [.int (xs (x3_2 + (nI 1)).toNatClampNeg)] [.int r_76] (c_MD_sum  hw) (em_cwV C 1 mw_499 mw_500 mw_501 mw_71 mw_502 rfl rfl (by decide +kernel) (by decide)) em_nc_MD em_sh_MD rfl rfl rfl (Nat.le_of_ble_eq_true rfl) d_LA_law_391 (by decide) (fun r_78 M_77 hw => ?_)
            refine g_icmp_eq (tgt := 570) C d_LA_law_394 (by decide) (fun hc_79 => ?_) (fun hc_79 => ?_)
            · have hw := hw.1 hc_79
              obtain ⟨x3_80, ex3_80⟩ : ∃ y : Int32, y = x3_2 + nI 4 := ⟨_, rfl⟩
              have hw := hw x3_80 ex3_80
              refine g_iinc (v := x3_80) (lv' := [(3, .int x3_80), (0, .ref b), (1, .ref (ad (0))), (2, .ref (ad (52)))]) C 3 d_LA_law_570 rfl (by rw [ex3_80]; first | rfl | (congr 1)) (by decide) rfl ?_
              refine g_goto (tgt := 18) C d_LA_law_573 (by decide) ?_
              refine g_sub [1, 2, 3, 0] rfl ?_
              exact ih_1 x3_80 M_77 (Nat.lt_of_lt_of_le hw.2 (Nat.le_of_lt_succ hn_1)) hw.1
            · have hw := hw.2 hc_79
              refine g_iconst (v := (nI 0)) C d_LA_law_397 (by decide) ?_
              exact absurd hw (by decide)
          · have hw := hw.2.2.2.2.2.2.2.2.2.1 hs_6
            refine g_tableIn (tgt := 399) (off := 367) C d_LA_law_32 (by rw [hs_6]; decide) (by rw [hs_6]; decide) (by rw [hs_6]; rfl) (by decide) ?_
            refine g_aload_n C 1 1 d_LA_law_399 rfl rfl ?_
            refine g_aload_n C 0 0 d_LA_law_400 rfl rfl ?_
            refine g_iload_n C 3 3 d_LA_law_401 rfl rfl ?_
            refine g_iconst (v := (nI 1)) C d_LA_law_402 (by decide) ?_
            refine g_iadd C d_LA_law_403 ?_
            obtain ⟨hb_81, hw⟩ := hw
            refine g_sld C hX hbl hb0 d_LA_law_404 hb_81 ?_
            refine g_callVi C 0 rfl [.int (xs (x3_2 + (nI 1)).toNatClampNeg)] [] (c_BE_total  hw) (em_cwV C 1 mw_277 mw_278 mw_279 mw_64 mw_280 rfl rfl (by decide +kernel) (by decide)) em_nc_BE em_sh_BE rfl rfl rfl (Nat.le_of_ble_eq_true rfl) d_LA_law_405 (by decide) (fun r_83 M_82 hw => ?_)
            obtain ⟨rfl, hw⟩ := hw
            refine g_aload_n C 2 2 d_LA_law_408 rfl rfl ?_
            refine g_aload_n C 0 0 d_LA_law_409 rfl rfl ?_
            refine g_iload_n C 3 3 d_LA_law_410 rfl rfl ?_
            refine g_iconst (v := (nI 1)) C d_LA_law_411 (by decide) ?_
            refine g_iadd C d_LA_law_412 ?_
            refine g_sld C hX hbl hb0 d_LA_law_413 hb_81 ?_
            refine g_callVi C 52 rfl [.int (xs (x3_2 + (nI 1)).toNatClampNeg)] [.int r_83] (c_MD_total  hw) (em_cwV C 1 mw_506 mw_507 mw_508 mw_71 mw_509 rfl rfl (by decide +kernel) (by decide)) em_nc_MD em_sh_MD rfl rfl rfl (Nat.le_of_ble_eq_true rfl) d_LA_law_414 (by decide) (fun r_85 M_84 hw => ?_)
            refine g_icmp_eq (tgt := 570) C d_LA_law_417 (by decide) (fun hc_86 => ?_) (fun hc_86 => ?_)
            · have hw := hw.1 hc_86
              obtain ⟨x3_87, ex3_87⟩ : ∃ y : Int32, y = x3_2 + nI 4 := ⟨_, rfl⟩
              have hw := hw x3_87 ex3_87
              refine g_iinc (v := x3_87) (lv' := [(3, .int x3_87), (0, .ref b), (1, .ref (ad (0))), (2, .ref (ad (52)))]) C 3 d_LA_law_570 rfl (by rw [ex3_87]; first | rfl | (congr 1)) (by decide) rfl ?_
              refine g_goto (tgt := 18) C d_LA_law_573 (by decide) ?_
              refine g_sub [1, 2, 3, 0] rfl ?_
              exact ih_1 x3_87 M_84 (Nat.lt_of_lt_of_le hw.2 (Nat.le_of_lt_succ hn_1)) hw.1
            · have hw := hw.2 hc_86
              refine g_iconst (v := (nI 0)) C d_LA_law_420 (by decide) ?_
              exact absurd hw (by decide)
          · have hw := hw.2.2.2.2.2.2.2.2.2.2.1 hs_6
            refine g_tableIn (tgt := 422) (off := 390) C d_LA_law_32 (by rw [hs_6]; decide) (by rw [hs_6]; decide) (by rw [hs_6]; rfl) (by decide) ?_
            refine g_aload_n C 1 1 d_LA_law_422 rfl rfl ?_
            refine g_aload_n C 0 0 d_LA_law_423 rfl rfl ?_
            refine g_iload_n C 3 3 d_LA_law_424 rfl rfl ?_
            refine g_iconst (v := (nI 1)) C d_LA_law_425 (by decide) ?_
            refine g_iadd C d_LA_law_426 ?_
            obtain ⟨hb_88, hw⟩ := hw
            refine g_sld C hX hbl hb0 d_LA_law_427 hb_88 ?_
            refine g_callVi C 0 rfl [.int (xs (x3_2 + (nI 1)).toNatClampNeg)] [] (c_BE_walk  hw) (em_cwV C 1 mw_281 mw_282 mw_283 mw_64 mw_284 rfl rfl (by decide +kernel) (by decide)) em_nc_BE em_sh_BE rfl rfl rfl (Nat.le_of_ble_eq_true rfl) d_LA_law_428 (by decide) (fun r_90 M_89 hw => ?_)
            refine g_aload_n C 2 2 d_LA_law_431 rfl rfl ?_
            refine g_aload_n C 0 0 d_LA_law_432 rfl rfl ?_
            refine g_iload_n C 3 3 d_LA_law_433 rfl rfl ?_
            refine g_iconst (v := (nI 1)) C d_LA_law_434 (by decide) ?_
            refine g_iadd C d_LA_law_435 ?_
            refine g_sld C hX hbl hb0 d_LA_law_436 hb_88 ?_
            refine g_callVi C 52 rfl [.int (xs (x3_2 + (nI 1)).toNatClampNeg)] [.int r_90] (c_MD_walk  hw) (em_cwV C 1 mw_510 mw_511 mw_512 mw_71 mw_513 rfl rfl (by decide +kernel) (by decide)) em_nc_MD em_sh_MD rfl rfl rfl (Nat.le_of_ble_eq_true rfl) d_LA_law_437 (by decide) (fun r_92 M_91 hw => ?_)
            refine g_icmp_eq (tgt := 570) C d_LA_law_440 (by decide) (fun hc_93 => ?_) (fun hc_93 => ?_)
            · have hw := hw.1 hc_93
              obtain ⟨x3_94, ex3_94⟩ : ∃ y : Int32, y = x3_2 + nI 4 := ⟨_, rfl⟩
              have hw := hw x3_94 ex3_94
              refine g_iinc (v := x3_94) (lv' := [(3, .int x3_94), (0, .ref b), (1, .ref (ad (0))), (2, .ref (ad (52)))]) C 3 d_LA_law_570 rfl (by rw [ex3_94]; first | rfl | (congr 1)) (by decide) rfl ?_
              refine g_goto (tgt := 18) C d_LA_law_573 (by decide) ?_
              refine g_sub [1, 2, 3, 0] rfl ?_
              exact ih_1 x3_94 M_91 (Nat.lt_of_lt_of_le hw.2 (Nat.le_of_lt_succ hn_1)) hw.1
            · have hw := hw.2 hc_93
              refine g_iconst (v := (nI 0)) C d_LA_law_443 (by decide) ?_
              exact absurd hw (by decide)
          · have hw := hw.2.2.2.2.2.2.2.2.2.2.2.1 hs_6
            refine g_tableIn (tgt := 445) (off := 413) C d_LA_law_32 (by rw [hs_6]; decide) (by rw [hs_6]; decide) (by rw [hs_6]; rfl) (by decide) ?_
            refine g_aload_n C 1 1 d_LA_law_445 rfl rfl ?_
            refine g_callVi C 0 rfl [] [] (c_BE_keys  hw) (em_cwV C 0 mw_357 mw_358 mw_359 mw_64 mw_360 rfl rfl (by decide +kernel) (by decide)) em_nc_BE em_sh_BE rfl rfl rfl (Nat.le_of_ble_eq_true rfl) d_LA_law_446 (by decide) (fun r_96 M_95 hw => ?_)
            refine g_aload_n C 2 2 d_LA_law_449 rfl rfl ?_
            refine g_callVi C 52 rfl [] [.int r_96] (c_MD_keys  hw) (em_cwV C 0 mw_556 mw_557 mw_558 mw_71 mw_559 rfl rfl (by decide +kernel) (by decide)) em_nc_MD em_sh_MD rfl rfl rfl (Nat.le_of_ble_eq_true rfl) d_LA_law_450 (by decide) (fun r_98 M_97 hw => ?_)
            refine g_icmp_eq (tgt := 570) C d_LA_law_453 (by decide) (fun hc_99 => ?_) (fun hc_99 => ?_)
            · have hw := hw.1 hc_99
              obtain ⟨x3_100, ex3_100⟩ : ∃ y : Int32, y = x3_2 + nI 4 := ⟨_, rfl⟩
              have hw := hw x3_100 ex3_100
              refine g_iinc (v := x3_100) (lv' := [(3, .int x3_100), (0, .ref b), (1, .ref (ad (0))), (2, .ref (ad (52)))]) C 3 d_LA_law_570 rfl (by rw [ex3_100]; first | rfl | (congr 1)) (by decide) rfl ?_
              refine g_goto (tgt := 18) C d_LA_law_573 (by decide) ?_
              refine g_sub [1, 2, 3, 0] rfl ?_
              exact ih_1 x3_100 M_97 (Nat.lt_of_lt_of_le hw.2 (Nat.le_of_lt_succ hn_1)) hw.1
            · have hw := hw.2 hc_99
              refine g_iconst (v := (nI 0)) C d_LA_law_456 (by decide) ?_
              exact absurd hw (by decide)
          · have hw := hw.2.2.2.2.2.2.2.2.2.2.2.2.1 hs_6
            refine g_tableIn (tgt := 458) (off := 426) C d_LA_law_32 (by rw [hs_6]; decide) (by rw [hs_6]; decide) (by rw [hs_6]; rfl) (by decide) ?_
            refine g_aload_n C 1 1 d_LA_law_458 rfl rfl ?_
            refine g_aload_n C 0 0 d_LA_law_459 rfl rfl ?_
            refine g_iload_n C 3 3 d_LA_law_460 rfl rfl ?_
            refine g_iconst (v := (nI 1)) C d_LA_law_461 (by decide) ?_
            refine g_iadd C d_LA_law_462 ?_
            obtain ⟨hb_101, hw⟩ := hw
            refine g_sld C hX hbl hb0 d_LA_law_463 hb_101 ?_
            refine g_aload_n C 0 0 d_LA_law_464 rfl rfl ?_
            refine g_iload_n C 3 3 d_LA_law_465 rfl rfl ?_
            refine g_iconst (v := (nI 2)) C d_LA_law_466 (by decide) ?_
            refine g_iadd C d_LA_law_467 ?_
            obtain ⟨hb_102, hw⟩ := hw
            refine g_sld C hX hbl hb0 d_LA_law_468 hb_102 ?_
            refine g_callVi C 0 rfl [.int (xs (x3_2 + (nI 1)).toNatClampNeg), .int (xs (x3_2 + (nI 2)).toNatClampNeg)] [] (c_BE_anew  hw) (em_cwV C 2 mw_371 mw_372 mw_373 mw_64 mw_374 rfl rfl (by decide +kernel) (by decide)) em_nc_BE em_sh_BE rfl rfl rfl (Nat.le_of_ble_eq_true rfl) d_LA_law_469 (by decide) (fun r_104 M_103 hw => ?_)
            refine g_aload_n C 2 2 d_LA_law_472 rfl rfl ?_
            refine g_aload_n C 0 0 d_LA_law_473 rfl rfl ?_
            refine g_iload_n C 3 3 d_LA_law_474 rfl rfl ?_
            refine g_iconst (v := (nI 1)) C d_LA_law_475 (by decide) ?_
            refine g_iadd C d_LA_law_476 ?_
            refine g_sld C hX hbl hb0 d_LA_law_477 hb_101 ?_
            refine g_aload_n C 0 0 d_LA_law_478 rfl rfl ?_
            refine g_iload_n C 3 3 d_LA_law_479 rfl rfl ?_
            refine g_iconst (v := (nI 2)) C d_LA_law_480 (by decide) ?_
            refine g_iadd C d_LA_law_481 ?_
            refine g_sld C hX hbl hb0 d_LA_law_482 hb_102 ?_
            refine g_callVi C 52 rfl [.int (xs (x3_2 + (nI 1)).toNatClampNeg), .int (xs (x3_2 + (nI 2)).toNatClampNeg)] [.int r_104] (c_MD_anew  hw) (em_cwV C 2 mw_563 mw_564 mw_565 mw_71 mw_566 rfl rfl (by decide +kernel) (by decide)) em_nc_MD em_sh_MD rfl rfl rfl (Nat.le_of_ble_eq_true rfl) d_LA_law_483 (by decide) (fun r_106 M_105 hw => ?_)
            refine g_icmp_eq (tgt := 570) C d_LA_law_486 (by decide) (fun hc_107 => ?_) (fun hc_107 => ?_)
            · have hw := hw.1 hc_107
              obtain ⟨x3_108, ex3_108⟩ : ∃ y : Int32, y = x3_2 + nI 4 := ⟨_, rfl⟩
              have hw := hw x3_108 ex3_108
              refine g_iinc (v := x3_108) (lv' := [(3, .int x3_108), (0, .ref b), (1, .ref (ad (0))), (2, .ref (ad (52)))]) C 3 d_LA_law_570 rfl (by rw [ex3_108]; first | rfl | (congr 1)) (by decide) rfl ?_
              refine g_goto (tgt := 18) C d_LA_law_573 (by decide) ?_
              refine g_sub [1, 2, 3, 0] rfl ?_
              exact ih_1 x3_108 M_105 (Nat.lt_of_lt_of_le hw.2 (Nat.le_of_lt_succ hn_1)) hw.1
            · have hw := hw.2 hc_107
              refine g_iconst (v := (nI 0)) C d_LA_law_489 (by decide) ?_
              exact absurd hw (by decide)
          · have hw := hw.2.2.2.2.2.2.2.2.2.2.2.2.2.1 hs_6
            refine g_tableIn (tgt := 491) (off := 459) C d_LA_law_32 (by rw [hs_6]; decide) (by rw [hs_6]; decide) (by rw [hs_6]; rfl) (by decide) ?_
            refine g_aload_n C 1 1 d_LA_law_491 rfl rfl ?_
            refine g_aload_n C 0 0 d_LA_law_492 rfl rfl ?_
            refine g_iload_n C 3 3 d_LA_law_493 rfl rfl ?_
            refine g_iconst (v := (nI 1)) C d_LA_law_494 (by decide) ?_
            refine g_iadd C d_LA_law_495 ?_
            obtain ⟨hb_109, hw⟩ := hw
            refine g_sld C hX hbl hb0 d_LA_law_496 hb_109 ?_
            refine g_aload_n C 0 0 d_LA_law_497 rfl rfl ?_
            refine g_iload_n C 3 3 d_LA_law_498 rfl rfl ?_
            refine g_iconst (v := (nI 2)) C d_LA_law_499 (by decide) ?_
            refine g_iadd C d_LA_law_500 ?_
            obtain ⟨hb_110, hw⟩ := hw
            refine g_sld C hX hbl hb0 d_LA_law_501 hb_110 ?_
            refine g_callVi C 0 rfl [.int (xs (x3_2 + (nI 1)).toNatClampNeg), .int (xs (x3_2 + (nI 2)).toNatClampNeg)] [] (c_BE_answer  hw) (em_cwV C 2 mw_377 mw_378 mw_379 mw_64 mw_380 rfl rfl (by decide +kernel) (by decide)) em_nc_BE em_sh_BE rfl rfl rfl (Nat.le_of_ble_eq_true rfl) d_LA_law_502 (by decide) (fun r_112 M_111 hw => ?_)
            obtain ⟨rfl, hw⟩ := hw
            refine g_aload_n C 2 2 d_LA_law_505 rfl rfl ?_
            refine g_aload_n C 0 0 d_LA_law_506 rfl rfl ?_
            refine g_iload_n C 3 3 d_LA_law_507 rfl rfl ?_
            refine g_iconst (v := (nI 1)) C d_LA_law_508 (by decide) ?_
            refine g_iadd C d_LA_law_509 ?_
            refine g_sld C hX hbl hb0 d_LA_law_510 hb_109 ?_
            refine g_aload_n C 0 0 d_LA_law_511 rfl rfl ?_
            refine g_iload_n C 3 3 d_LA_law_512 rfl rfl ?_
            refine g_iconst (v := (nI 2)) C d_LA_law_513 (by decide) ?_
            refine g_iadd C d_LA_law_514 ?_
            refine g_sld C hX hbl hb0 d_LA_law_515 hb_110 ?_
            refine g_callVi C 52 rfl [.int (xs (x3_2 + (nI 1)).toNatClampNeg), .int (xs (x3_2 + (nI 2)).toNatClampNeg)] [.int r_112] (c_MD_answer  hw) (em_cwV C 2 mw_567 mw_568 mw_569 mw_71 mw_570 rfl rfl (by decide +kernel) (by decide)) em_nc_MD em_sh_MD rfl rfl rfl (Nat.le_of_ble_eq_true rfl) d_LA_law_516 (by decide) (fun r_114 M_113 hw => ?_)
            refine g_icmp_eq (tgt := 570) C d_LA_law_519 (by decide) (fun hc_115 => ?_) (fun hc_115 => ?_)
            · have hw := hw.1 hc_115
              obtain ⟨x3_116, ex3_116⟩ : ∃ y : Int32, y = x3_2 + nI 4 := ⟨_, rfl⟩
              have hw := hw x3_116 ex3_116
              refine g_iinc (v := x3_116) (lv' := [(3, .int x3_116), (0, .ref b), (1, .ref (ad (0))), (2, .ref (ad (52)))]) C 3 d_LA_law_570 rfl (by rw [ex3_116]; first | rfl | (congr 1)) (by decide) rfl ?_
              refine g_goto (tgt := 18) C d_LA_law_573 (by decide) ?_
              refine g_sub [1, 2, 3, 0] rfl ?_
              exact ih_1 x3_116 M_113 (Nat.lt_of_lt_of_le hw.2 (Nat.le_of_lt_succ hn_1)) hw.1
            · have hw := hw.2 hc_115
              refine g_iconst (v := (nI 0)) C d_LA_law_522 (by decide) ?_
              exact absurd hw (by decide)
          · have hw := hw.2.2.2.2.2.2.2.2.2.2.2.2.2.2.1 hs_6
            refine g_tableIn (tgt := 524) (off := 492) C d_LA_law_32 (by rw [hs_6]; decide) (by rw [hs_6]; decide) (by rw [hs_6]; rfl) (by decide) ?_
            refine g_aload_n C 1 1 d_LA_law_524 rfl rfl ?_
            refine g_aload_n C 0 0 d_LA_law_525 rfl rfl ?_
            refine g_iload_n C 3 3 d_LA_law_526 rfl rfl ?_
            refine g_iconst (v := (nI 1)) C d_LA_law_527 (by decide) ?_
            refine g_iadd C d_LA_law_528 ?_
            obtain ⟨hb_117, hw⟩ := hw
            refine g_sld C hX hbl hb0 d_LA_law_529 hb_117 ?_
            refine g_callVi C 0 rfl [.int (xs (x3_2 + (nI 1)).toNatClampNeg)] [] (c_BE_told  hw) (em_cwV C 1 mw_381 mw_382 mw_383 mw_64 mw_384 rfl rfl (by decide +kernel) (by decide)) em_nc_BE em_sh_BE rfl rfl rfl (Nat.le_of_ble_eq_true rfl) d_LA_law_530 (by decide) (fun r_119 M_118 hw => ?_)
            obtain ⟨rfl, hw⟩ := hw
            refine g_aload_n C 2 2 d_LA_law_533 rfl rfl ?_
            refine g_aload_n C 0 0 d_LA_law_534 rfl rfl ?_
            refine g_iload_n C 3 3 d_LA_law_535 rfl rfl ?_
            refine g_iconst (v := (nI 1)) C d_LA_law_536 (by decide) ?_
            refine g_iadd C d_LA_law_537 ?_
            refine g_sld C hX hbl hb0 d_LA_law_538 hb_117 ?_
            refine g_callVi C 52 rfl [.int (xs (x3_2 + (nI 1)).toNatClampNeg)] [.int r_119] (c_MD_told  hw) (em_cwV C 1 mw_571 mw_572 mw_573 mw_71 mw_574 rfl rfl (by decide +kernel) (by decide)) em_nc_MD em_sh_MD rfl rfl rfl (Nat.le_of_ble_eq_true rfl) d_LA_law_539 (by decide) (fun r_121 M_120 hw => ?_)
            refine g_icmp_eq (tgt := 570) C d_LA_law_542 (by decide) (fun hc_122 => ?_) (fun hc_122 => ?_)
            · have hw := hw.1 hc_122
              obtain ⟨x3_123, ex3_123⟩ : ∃ y : Int32, y = x3_2 + nI 4 := ⟨_, rfl⟩
              have hw := hw x3_123 ex3_123
              refine g_iinc (v := x3_123) (lv' := [(3, .int x3_123), (0, .ref b), (1, .ref (ad (0))), (2, .ref (ad (52)))]) C 3 d_LA_law_570 rfl (by rw [ex3_123]; first | rfl | (congr 1)) (by decide) rfl ?_
              refine g_goto (tgt := 18) C d_LA_law_573 (by decide) ?_
              refine g_sub [1, 2, 3, 0] rfl ?_
              exact ih_1 x3_123 M_120 (Nat.lt_of_lt_of_le hw.2 (Nat.le_of_lt_succ hn_1)) hw.1
            · have hw := hw.2 hc_122
              refine g_iconst (v := (nI 0)) C d_LA_law_545 (by decide) ?_
              exact absurd hw (by decide)
          · have hw := hw.2.2.2.2.2.2.2.2.2.2.2.2.2.2.2 hs_6
            refine g_tableIn (tgt := 547) (off := 515) C d_LA_law_32 (by rw [hs_6]; decide) (by rw [hs_6]; decide) (by rw [hs_6]; rfl) (by decide) ?_
            refine g_aload_n C 1 1 d_LA_law_547 rfl rfl ?_
            refine g_aload_n C 0 0 d_LA_law_548 rfl rfl ?_
            refine g_iload_n C 3 3 d_LA_law_549 rfl rfl ?_
            refine g_iconst (v := (nI 1)) C d_LA_law_550 (by decide) ?_
            refine g_iadd C d_LA_law_551 ?_
            obtain ⟨hb_124, hw⟩ := hw
            refine g_sld C hX hbl hb0 d_LA_law_552 hb_124 ?_
            refine g_callVi C 0 rfl [.int (xs (x3_2 + (nI 1)).toNatClampNeg)] [] (c_BE_count  hw) (em_cwV C 1 mw_385 mw_386 mw_387 mw_64 mw_388 rfl rfl (by decide +kernel) (by decide)) em_nc_BE em_sh_BE rfl rfl rfl (Nat.le_of_ble_eq_true rfl) d_LA_law_553 (by decide) (fun r_126 M_125 hw => ?_)
            obtain ⟨rfl, hw⟩ := hw
            refine g_aload_n C 2 2 d_LA_law_556 rfl rfl ?_
            refine g_aload_n C 0 0 d_LA_law_557 rfl rfl ?_
            refine g_iload_n C 3 3 d_LA_law_558 rfl rfl ?_
            refine g_iconst (v := (nI 1)) C d_LA_law_559 (by decide) ?_
            refine g_iadd C d_LA_law_560 ?_
            refine g_sld C hX hbl hb0 d_LA_law_561 hb_124 ?_
            refine g_callVi C 52 rfl [.int (xs (x3_2 + (nI 1)).toNatClampNeg)] [.int r_126] (c_MD_count  hw) (em_cwV C 1 mw_575 mw_576 mw_577 mw_71 mw_578 rfl rfl (by decide +kernel) (by decide)) em_nc_MD em_sh_MD rfl rfl rfl (Nat.le_of_ble_eq_true rfl) d_LA_law_562 (by decide) (fun r_128 M_127 hw => ?_)
            refine g_icmp_eq (tgt := 570) C d_LA_law_565 (by decide) (fun hc_129 => ?_) (fun hc_129 => ?_)
            · have hw := hw.1 hc_129
              obtain ⟨x3_130, ex3_130⟩ : ∃ y : Int32, y = x3_2 + nI 4 := ⟨_, rfl⟩
              have hw := hw x3_130 ex3_130
              refine g_iinc (v := x3_130) (lv' := [(3, .int x3_130), (0, .ref b), (1, .ref (ad (0))), (2, .ref (ad (52)))]) C 3 d_LA_law_570 rfl (by rw [ex3_130]; first | rfl | (congr 1)) (by decide) rfl ?_
              refine g_goto (tgt := 18) C d_LA_law_573 (by decide) ?_
              refine g_sub [1, 2, 3, 0] rfl ?_
              exact ih_1 x3_130 M_127 (Nat.lt_of_lt_of_le hw.2 (Nat.le_of_lt_succ hn_1)) hw.1
            · have hw := hw.2 hc_129
              refine g_iconst (v := (nI 0)) C d_LA_law_568 (by decide) ?_
              exact absurd hw (by decide)
  exact lp_1 _ (nI 0) M (Nat.lt_succ_self _) h0
