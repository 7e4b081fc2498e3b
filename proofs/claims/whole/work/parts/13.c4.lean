theorem dM_bitCount_0 : decode prog_8_method_49_code 0 = .ok (.iload_n 0, 1) := by decide +kernel
theorem dM_bitCount_1 : decode prog_8_method_49_code 1 = .ok (.iload_n 0, 1) := by decide +kernel
theorem dM_bitCount_2 : decode prog_8_method_49_code 2 = .ok (.iconst 1, 1) := by decide +kernel
theorem dM_bitCount_3 : decode prog_8_method_49_code 3 = .ok (.iushr, 1) := by decide +kernel
theorem dM_bitCount_4 : decode prog_8_method_49_code 4 = .ok (.ldc_w 265, 3) := by decide +kernel
theorem dM_bitCount_7 : decode prog_8_method_49_code 7 = .ok (.iand, 1) := by decide +kernel
theorem dM_bitCount_8 : decode prog_8_method_49_code 8 = .ok (.isub, 1) := by decide +kernel
theorem dM_bitCount_9 : decode prog_8_method_49_code 9 = .ok (.istore_n 0, 1) := by decide +kernel
theorem dM_bitCount_10 : decode prog_8_method_49_code 10 = .ok (.iload_n 0, 1) := by decide +kernel
theorem dM_bitCount_11 : decode prog_8_method_49_code 11 = .ok (.ldc_w 266, 3) := by decide +kernel
theorem dM_bitCount_14 : decode prog_8_method_49_code 14 = .ok (.iand, 1) := by decide +kernel
theorem dM_bitCount_15 : decode prog_8_method_49_code 15 = .ok (.iload_n 0, 1) := by decide +kernel
theorem dM_bitCount_16 : decode prog_8_method_49_code 16 = .ok (.iconst 2, 1) := by decide +kernel
theorem dM_bitCount_17 : decode prog_8_method_49_code 17 = .ok (.iushr, 1) := by decide +kernel
theorem dM_bitCount_18 : decode prog_8_method_49_code 18 = .ok (.ldc_w 266, 3) := by decide +kernel
theorem dM_bitCount_21 : decode prog_8_method_49_code 21 = .ok (.iand, 1) := by decide +kernel
theorem dM_bitCount_22 : decode prog_8_method_49_code 22 = .ok (.iadd, 1) := by decide +kernel
theorem dM_bitCount_23 : decode prog_8_method_49_code 23 = .ok (.istore_n 0, 1) := by decide +kernel
theorem dM_bitCount_24 : decode prog_8_method_49_code 24 = .ok (.iload_n 0, 1) := by decide +kernel
theorem dM_bitCount_25 : decode prog_8_method_49_code 25 = .ok (.iload_n 0, 1) := by decide +kernel
theorem dM_bitCount_26 : decode prog_8_method_49_code 26 = .ok (.iconst 4, 1) := by decide +kernel
theorem dM_bitCount_27 : decode prog_8_method_49_code 27 = .ok (.iushr, 1) := by decide +kernel
theorem dM_bitCount_28 : decode prog_8_method_49_code 28 = .ok (.iadd, 1) := by decide +kernel
theorem dM_bitCount_29 : decode prog_8_method_49_code 29 = .ok (.ldc_w 267, 3) := by decide +kernel
theorem dM_bitCount_32 : decode prog_8_method_49_code 32 = .ok (.iand, 1) := by decide +kernel
theorem dM_bitCount_33 : decode prog_8_method_49_code 33 = .ok (.istore_n 0, 1) := by decide +kernel
theorem dM_bitCount_34 : decode prog_8_method_49_code 34 = .ok (.iload_n 0, 1) := by decide +kernel
theorem dM_bitCount_35 : decode prog_8_method_49_code 35 = .ok (.iload_n 0, 1) := by decide +kernel
theorem dM_bitCount_36 : decode prog_8_method_49_code 36 = .ok (.bipush 8, 2) := by decide +kernel
theorem dM_bitCount_38 : decode prog_8_method_49_code 38 = .ok (.iushr, 1) := by decide +kernel
theorem dM_bitCount_39 : decode prog_8_method_49_code 39 = .ok (.iadd, 1) := by decide +kernel
theorem dM_bitCount_40 : decode prog_8_method_49_code 40 = .ok (.istore_n 0, 1) := by decide +kernel
theorem dM_bitCount_41 : decode prog_8_method_49_code 41 = .ok (.iload_n 0, 1) := by decide +kernel
theorem dM_bitCount_42 : decode prog_8_method_49_code 42 = .ok (.iload_n 0, 1) := by decide +kernel
theorem dM_bitCount_43 : decode prog_8_method_49_code 43 = .ok (.bipush 16, 2) := by decide +kernel
theorem dM_bitCount_45 : decode prog_8_method_49_code 45 = .ok (.iushr, 1) := by decide +kernel
theorem dM_bitCount_46 : decode prog_8_method_49_code 46 = .ok (.iadd, 1) := by decide +kernel
theorem dM_bitCount_47 : decode prog_8_method_49_code 47 = .ok (.istore_n 0, 1) := by decide +kernel
theorem dM_bitCount_48 : decode prog_8_method_49_code 48 = .ok (.iload_n 0, 1) := by decide +kernel
theorem dM_bitCount_49 : decode prog_8_method_49_code 49 = .ok (.bipush 63, 2) := by decide +kernel
theorem dM_bitCount_51 : decode prog_8_method_49_code 51 = .ok (.iand, 1) := by decide +kernel
theorem dM_bitCount_52 : decode prog_8_method_49_code 52 = .ok (.ireturn, 1) := by decide +kernel
theorem km_c : Cond.code Lib.Math.min.name Lib.Math.min.code 2 (some .int) ∈ GW := GW_of 434 (by decide +kernel) (by decide +kernel)
theorem km_s : Cond.static Lib.Math.min.name ∈ GW := GW_of 433 (by decide +kernel) (by decide +kernel)
theorem km_i : Cond.initialized "java/lang/Math" ∈ GW := GW_of 64 (by decide +kernel) (by decide +kernel)
theorem km_X4_298 : Cond.methodLink RX4 298 Lib.Math.min.name ∈ GW := GW_of 432 (by decide +kernel) (by decide +kernel)
theorem km_X2_28 : Cond.methodLink RX2 28 Lib.Math.min.name ∈ GW := GW_of 444 (by decide +kernel) (by decide +kernel)
theorem p_min {K : KX} {X : CX} {nL d : Nat} {Q : State → Prop} {cc : ByteArray} {own : String} {ret : Option FieldType} {pc : Nat} {ls : List (Nat × PV)} {st : List PV} {μ : Int → ME} (C : okX K X cc own nL (d + 1) ret) {idx : Nat} {x y : Int} (hw : Cond.methodLink own idx Lib.Math.min.name ∈ GW) (dg : decode cc pc = .ok (.invokestatic idx, 3)) (hsz : (st.map fun v => if isL v = true then 2 else 1).sum ≤ 8) (k : PW K X nL Q (pc + 3) ls (vI (if y < x then y else x) :: st) μ) : PW K X nL Q pc ls (vI y :: vI x :: st) μ := fun H locs la hP hS hl hμ hL hs => by
  have ry : rng y := hs.hd
  have rx : rng x := hs.tl.hd
  have hR := C.2.2.2.2.2.2.2.2.1
  refine va_mmin C.1 C.2.1 (by rw [C.2.2.1]; exact hl.1.symm) C.2.2.2.1 (C.2.2.2.2.1 _ hw) (C.2.2.2.2.1 _ km_s) (C.2.2.2.2.1 _ km_i) (C.2.2.2.2.1 _ km_c) (by omega) (by rw [cat_sum]; omega) C.2.2.2.2.2.2.2.2.2.1 C.2.2.2.2.2.2.2.2.2.2 dg ?_
  have h := k H locs la hP hS hl hμ hL (hs.tl.tl.cons (show okV (vI _) by show rng _; split <;> assumption))
  have e : (if Int32.ofInt y < Int32.ofInt x then Int32.ofInt y else Int32.ofInt x) = Int32.ofInt (if y < x then y else x) := by
    by_cases c : y < x
    · rw [if_pos c, if_pos ((zi_lt ry rx).mpr c)]
    · rw [if_neg c, if_neg (fun z => c ((zi_lt ry rx).mp z))]
  rw [e]
  exact h

/-- bits counted -/
def bcI (v : Int) : Int :=
  let a := iwr (v - iAnd (iUshr v 1) (1431655765 : Int32).toInt)
  let b := iwr (iAnd a (858993459 : Int32).toInt + iAnd (iUshr a 2) (858993459 : Int32).toInt)
  let c := iAnd (iwr (b + iUshr b 4)) (252645135 : Int32).toInt
  let d := iwr (c + iUshr c 8)
  let e := iwr (d + iUshr d 16)
  iAnd e 63

set_option maxHeartbeats 4000000 in
set_option maxRecDepth 100000 in
theorem k_M_bitCount {K : KX} {d : Nat} {μ : Int → ME} {v : Int} : Ct K (d) yM_bitCount prog_8_method_49_code 1 (some .int) [vI v] μ (pF (vI (bcI v)) μ) := by
  refine Ct.of (by decide) (Nat.le_of_ble_eq_true rfl) (fun X C => ?_)
  refine p_iload_n (pc := 0) C dM_bitCount_0 rfl ?_
  refine p_iload_n (pc := 1) C dM_bitCount_1 rfl ?_
  refine p_iconst (pc := 2) C dM_bitCount_2 (by decide) ?_
  refine p_iushr (pc := 3) C dM_bitCount_3 ?_
  refine p_ldcw (pc := 4) C kc_M_265 dM_bitCount_4 ?_
  refine p_iand (pc := 7) C dM_bitCount_7 ?_
  refine p_isubw (pc := 8) C dM_bitCount_8 ?_
  refine p_istore_n (pc := 9) (ls' := [(0, _)]) C dM_bitCount_9 (by decide) rfl ?_
  refine p_iload_n (pc := 10) C dM_bitCount_10 rfl ?_
  refine p_ldcw (pc := 11) C kc_M_266 dM_bitCount_11 ?_
  refine p_iand (pc := 14) C dM_bitCount_14 ?_
  refine p_iload_n (pc := 15) C dM_bitCount_15 rfl ?_
  refine p_iconst (pc := 16) C dM_bitCount_16 (by decide) ?_
  refine p_iushr (pc := 17) C dM_bitCount_17 ?_
  refine p_ldcw (pc := 18) C kc_M_266 dM_bitCount_18 ?_
  refine p_iand (pc := 21) C dM_bitCount_21 ?_
  refine p_iaddw (pc := 22) C dM_bitCount_22 ?_
  refine p_istore_n (pc := 23) (ls' := [(0, _)]) C dM_bitCount_23 (by decide) rfl ?_
  refine p_iload_n (pc := 24) C dM_bitCount_24 rfl ?_
  refine p_iload_n (pc := 25) C dM_bitCount_25 rfl ?_
  refine p_iconst (pc := 26) C dM_bitCount_26 (by decide) ?_
  refine p_iushr (pc := 27) C dM_bitCount_27 ?_
  refine p_iaddw (pc := 28) C dM_bitCount_28 ?_
  refine p_ldcw (pc := 29) C kc_M_267 dM_bitCount_29 ?_
  refine p_iand (pc := 32) C dM_bitCount_32 ?_
  refine p_istore_n (pc := 33) (ls' := [(0, _)]) C dM_bitCount_33 (by decide) rfl ?_
  refine p_iload_n (pc := 34) C dM_bitCount_34 rfl ?_
  refine p_iload_n (pc := 35) C dM_bitCount_35 rfl ?_
  refine p_bipush (pc := 36) C dM_bitCount_36 (by decide) ?_
  refine p_iushr (pc := 38) C dM_bitCount_38 ?_
  refine p_iaddw (pc := 39) C dM_bitCount_39 ?_
  refine p_istore_n (pc := 40) (ls' := [(0, _)]) C dM_bitCount_40 (by decide) rfl ?_
  refine p_iload_n (pc := 41) C dM_bitCount_41 rfl ?_
  refine p_iload_n (pc := 42) C dM_bitCount_42 rfl ?_
  refine p_bipush (pc := 43) C dM_bitCount_43 (by decide) ?_
  refine p_iushr (pc := 45) C dM_bitCount_45 ?_
  refine p_iaddw (pc := 46) C dM_bitCount_46 ?_
  refine p_istore_n (pc := 47) (ls' := [(0, _)]) C dM_bitCount_47 (by decide) rfl ?_
  refine p_iload_n (pc := 48) C dM_bitCount_48 rfl ?_
  refine p_bipush (pc := 49) C dM_bitCount_49 (by decide) ?_
  refine p_iand (pc := 51) C dM_bitCount_51 ?_
  refine p_iret (pc := 52) C dM_bitCount_52 ?_
  exact ⟨rfl, rfl⟩

/-- between 0 and m -/
def cl0 (x m : Int) : Int := if x ≤ 0 then 0 else if x ≤ m then x else m
def cum (f : Int → Int) (nm j : Int) : Int := (if 0 < j ∧ nm ≠ 0 then f 0 else 0) + (if 1 < j ∧ nm ≠ 1 then f 1 else 0) + (if 2 < j ∧ nm ≠ 2 then f 2 else 0)
/-- what is lost of a good when r pieces go -/
def los (f : Int → Int) (nm r j : Int) : Int := if j = nm then cl0 r (f nm) else cl0 (r - cl0 r (f nm) - cum f nm j) (f j)

set_option maxHeartbeats 4000000 in
set_option maxRecDepth 100000 in
theorem k_X4_fillLosses {K : KX} {d : Nat} {μ : Int → ME} {a c nm r : Int} {f g : Int → Int} (ha : IR a) (h1 : μ a = mA 4 f) (hc : IR c) (h2 : μ c = mA 4 g) (hac : a ≠ c) (hn : 0 ≤ nm ∧ nm < 4) (hb : bd4 f 100) (hr : 0 ≤ r ∧ r ≤ 1000) : Ct K (d + 1) yX4_fillLosses cX4_fillLosses 6 none [vR a, vI nm, vI r, vR c] μ (fun v μ' => v = none ∧ ∃ G : Int → Int, μ' = mup μ c (mA 4 G) ∧ ∀ j, 0 ≤ j → j < 4 → G j = los f nm r j) := by
  refine Ct.of (by decide) (Nat.le_of_ble_eq_true rfl) (fun X C => ?_)
  obtain ⟨⟨b0, b1⟩, ⟨b2, b3⟩, ⟨b4, b5⟩, ⟨b6, b7⟩⟩ := id hb
  rcases (show nm = 0 ∨ nm = 1 ∨ nm = 2 ∨ nm = 3 by omega) with rfl | rfl | rfl | rfl
  · refine p_iload_n (pc := 0) C dX4_fillLosses_0 rfl ?_
    refine p_istore (pc := 1) (ls' := [(4, _), (0, _), (1, _), (2, _), (3, _)]) C dX4_fillLosses_1 (by decide) rfl ?_
    refine p_aload_n (pc := 3) C dX4_fillLosses_3 rfl ?_
    refine p_iload_n (pc := 4) C dX4_fillLosses_4 rfl ?_
    refine p_iload (pc := 5) C dX4_fillLosses_5 rfl ?_
    refine p_aload_n (pc := 7) C dX4_fillLosses_7 rfl ?_
    refine p_iload_n (pc := 8) C dX4_fillLosses_8 rfl ?_
    refine p_iald (pc := 9) C dX4_fillLosses_9 (by first | exact ha | exact hc) (by (repeat refine mg_n (by omega) ?_); first | assumption | exact mup_s _ _ _) (by omega) ?_
    try refine p_top (fup_s _ _ _) ?_
    refine p_min (pc := 10) C km_X4_298 dX4_fillLosses_10 (Nat.le_of_ble_eq_true rfl) ?_
    refine p_iast (pc := 13) C dX4_fillLosses_13 (by first | exact ha | exact hc) (by (repeat refine mg_n (by omega) ?_); first | assumption | exact mup_s _ _ _) (by omega) ?_
    try refine p_mem (mup_mup _ _ _ _) ?_
    refine p_iload (pc := 14) C dX4_fillLosses_14 rfl ?_
    refine p_aload_n (pc := 16) C dX4_fillLosses_16 rfl ?_
    refine p_iload_n (pc := 17) C dX4_fillLosses_17 rfl ?_
    refine p_iald (pc := 18) C dX4_fillLosses_18 (by first | exact ha | exact hc) (by (repeat refine mg_n (by omega) ?_); first | assumption | exact mup_s _ _ _) (by omega) ?_
    try refine p_top (fup_s _ _ _) ?_
    refine p_isub (pc := 19) C dX4_fillLosses_19 ⟨by omega, by omega⟩ ?_
    refine p_istore (pc := 20) (ls' := [(4, _), (0, _), (1, _), (2, _), (3, _)]) C dX4_fillLosses_20 (by decide) rfl ?_
    refine p_iconst (pc := 22) C dX4_fillLosses_22 (by decide) ?_
    refine p_istore (pc := 23) (ls' := [(5, _), (4, _), (0, _), (1, _), (2, _), (3, _)]) C dX4_fillLosses_23 (by decide) rfl ?_
    refine p_iload (pc := 25) C dX4_fillLosses_25 rfl ?_
    refine p_iconst (pc := 27) C dX4_fillLosses_27 (by decide) ?_
    refine p_icmp_ge (pc := 28) (tgt := 65) C dX4_fillLosses_28 (by decide) (fun h => absurd h (by decide)) (fun c_28 => ?_)
    refine p_iload (pc := 31) C dX4_fillLosses_31 rfl ?_
    refine p_iload_n (pc := 33) C dX4_fillLosses_33 rfl ?_
    refine p_icmp_eq (pc := 34) (tgt := 59) C dX4_fillLosses_34 (by decide) (fun c_34 => ?_) (fun h => absurd h (by decide))
    refine p_iincC (pc := 59) (w := 1) (ls' := [(5, _), (4, _), (0, _), (1, _), (2, _), (3, _)]) C dX4_fillLosses_59 (by decide) rfl (by decide) (by decide) rfl ?_
    refine p_goto (pc := 62) (tgt := 25) C dX4_fillLosses_62 (by decide) ?_
    refine p_iload (pc := 25) C dX4_fillLosses_25 rfl ?_
    refine p_iconst (pc := 27) C dX4_fillLosses_27 (by decide) ?_
    refine p_icmp_ge (pc := 28) (tgt := 65) C dX4_fillLosses_28 (by decide) (fun h => absurd h (by decide)) (fun c_28 => ?_)
    refine p_iload (pc := 31) C dX4_fillLosses_31 rfl ?_
    refine p_iload_n (pc := 33) C dX4_fillLosses_33 rfl ?_
    refine p_icmp_eq (pc := 34) (tgt := 59) C dX4_fillLosses_34 (by decide) (fun h => absurd h (by decide)) (fun c_34 => ?_)
    refine p_aload_n (pc := 37) C dX4_fillLosses_37 rfl ?_
    refine p_iload (pc := 38) C dX4_fillLosses_38 rfl ?_
    refine p_iload (pc := 40) C dX4_fillLosses_40 rfl ?_
    refine p_aload_n (pc := 42) C dX4_fillLosses_42 rfl ?_
    refine p_iload (pc := 43) C dX4_fillLosses_43 rfl ?_
    refine p_iald (pc := 45) C dX4_fillLosses_45 (by first | exact ha | exact hc) (by (repeat refine mg_n (by omega) ?_); first | assumption | exact mup_s _ _ _) (by omega) ?_
    try refine p_top (fup_s _ _ _) ?_
    refine p_min (pc := 46) C km_X4_298 dX4_fillLosses_46 (Nat.le_of_ble_eq_true rfl) ?_
    refine p_iast (pc := 49) C dX4_fillLosses_49 (by first | exact ha | exact hc) (by (repeat refine mg_n (by omega) ?_); first | assumption | exact mup_s _ _ _) (by omega) ?_
    try refine p_mem (mup_mup _ _ _ _) ?_
    refine p_iload (pc := 50) C dX4_fillLosses_50 rfl ?_
    refine p_aload_n (pc := 52) C dX4_fillLosses_52 rfl ?_
    refine p_iload (pc := 53) C dX4_fillLosses_53 rfl ?_
    refine p_iald (pc := 55) C dX4_fillLosses_55 (by first | exact ha | exact hc) (by (repeat refine mg_n (by omega) ?_); first | assumption | exact mup_s _ _ _) (by omega) ?_
    try refine p_top (fup_s _ _ _) ?_
    refine p_isub (pc := 56) C dX4_fillLosses_56 ⟨by omega, by omega⟩ ?_
    refine p_istore (pc := 57) (ls' := [(4, _), (5, _), (0, _), (1, _), (2, _), (3, _)]) C dX4_fillLosses_57 (by decide) rfl ?_
    refine p_iincC (pc := 59) (w := 2) (ls' := [(5, _), (4, _), (0, _), (1, _), (2, _), (3, _)]) C dX4_fillLosses_59 (by decide) rfl (by decide) (by decide) rfl ?_
    refine p_goto (pc := 62) (tgt := 25) C dX4_fillLosses_62 (by decide) ?_
    refine p_iload (pc := 25) C dX4_fillLosses_25 rfl ?_
    refine p_iconst (pc := 27) C dX4_fillLosses_27 (by decide) ?_
    refine p_icmp_ge (pc := 28) (tgt := 65) C dX4_fillLosses_28 (by decide) (fun h => absurd h (by decide)) (fun c_28 => ?_)
    refine p_iload (pc := 31) C dX4_fillLosses_31 rfl ?_
    refine p_iload_n (pc := 33) C dX4_fillLosses_33 rfl ?_
    refine p_icmp_eq (pc := 34) (tgt := 59) C dX4_fillLosses_34 (by decide) (fun h => absurd h (by decide)) (fun c_34 => ?_)
    refine p_aload_n (pc := 37) C dX4_fillLosses_37 rfl ?_
    refine p_iload (pc := 38) C dX4_fillLosses_38 rfl ?_
    refine p_iload (pc := 40) C dX4_fillLosses_40 rfl ?_
    refine p_aload_n (pc := 42) C dX4_fillLosses_42 rfl ?_
    refine p_iload (pc := 43) C dX4_fillLosses_43 rfl ?_
    refine p_iald (pc := 45) C dX4_fillLosses_45 (by first | exact ha | exact hc) (by (repeat refine mg_n (by omega) ?_); first | assumption | exact mup_s _ _ _) (by omega) ?_
    try refine p_top (fup_s _ _ _) ?_
    refine p_min (pc := 46) C km_X4_298 dX4_fillLosses_46 (Nat.le_of_ble_eq_true rfl) ?_
    refine p_iast (pc := 49) C dX4_fillLosses_49 (by first | exact ha | exact hc) (by (repeat refine mg_n (by omega) ?_); first | assumption | exact mup_s _ _ _) (by omega) ?_
    try refine p_mem (mup_mup _ _ _ _) ?_
    refine p_iload (pc := 50) C dX4_fillLosses_50 rfl ?_
    refine p_aload_n (pc := 52) C dX4_fillLosses_52 rfl ?_
    refine p_iload (pc := 53) C dX4_fillLosses_53 rfl ?_
    refine p_iald (pc := 55) C dX4_fillLosses_55 (by first | exact ha | exact hc) (by (repeat refine mg_n (by omega) ?_); first | assumption | exact mup_s _ _ _) (by omega) ?_
    try refine p_top (fup_s _ _ _) ?_
    refine p_isub (pc := 56) C dX4_fillLosses_56 ⟨by omega, by omega⟩ ?_
    refine p_istore (pc := 57) (ls' := [(4, _), (5, _), (0, _), (1, _), (2, _), (3, _)]) C dX4_fillLosses_57 (by decide) rfl ?_
    refine p_iincC (pc := 59) (w := 3) (ls' := [(5, _), (4, _), (0, _), (1, _), (2, _), (3, _)]) C dX4_fillLosses_59 (by decide) rfl (by decide) (by decide) rfl ?_
    refine p_goto (pc := 62) (tgt := 25) C dX4_fillLosses_62 (by decide) ?_
    refine p_iload (pc := 25) C dX4_fillLosses_25 rfl ?_
    refine p_iconst (pc := 27) C dX4_fillLosses_27 (by decide) ?_
    refine p_icmp_ge (pc := 28) (tgt := 65) C dX4_fillLosses_28 (by decide) (fun h => absurd h (by decide)) (fun c_28 => ?_)
    refine p_iload (pc := 31) C dX4_fillLosses_31 rfl ?_
    refine p_iload_n (pc := 33) C dX4_fillLosses_33 rfl ?_
    refine p_icmp_eq (pc := 34) (tgt := 59) C dX4_fillLosses_34 (by decide) (fun h => absurd h (by decide)) (fun c_34 => ?_)
    refine p_aload_n (pc := 37) C dX4_fillLosses_37 rfl ?_
    refine p_iload (pc := 38) C dX4_fillLosses_38 rfl ?_
    refine p_iload (pc := 40) C dX4_fillLosses_40 rfl ?_
    refine p_aload_n (pc := 42) C dX4_fillLosses_42 rfl ?_
    refine p_iload (pc := 43) C dX4_fillLosses_43 rfl ?_
    refine p_iald (pc := 45) C dX4_fillLosses_45 (by first | exact ha | exact hc) (by (repeat refine mg_n (by omega) ?_); first | assumption | exact mup_s _ _ _) (by omega) ?_
    try refine p_top (fup_s _ _ _) ?_
    refine p_min (pc := 46) C km_X4_298 dX4_fillLosses_46 (Nat.le_of_ble_eq_true rfl) ?_
    refine p_iast (pc := 49) C dX4_fillLosses_49 (by first | exact ha | exact hc) (by (repeat refine mg_n (by omega) ?_); first | assumption | exact mup_s _ _ _) (by omega) ?_
    try refine p_mem (mup_mup _ _ _ _) ?_
    refine p_iload (pc := 50) C dX4_fillLosses_50 rfl ?_
    refine p_aload_n (pc := 52) C dX4_fillLosses_52 rfl ?_
    refine p_iload (pc := 53) C dX4_fillLosses_53 rfl ?_
    refine p_iald (pc := 55) C dX4_fillLosses_55 (by first | exact ha | exact hc) (by (repeat refine mg_n (by omega) ?_); first | assumption | exact mup_s _ _ _) (by omega) ?_
    try refine p_top (fup_s _ _ _) ?_
    refine p_isub (pc := 56) C dX4_fillLosses_56 ⟨by omega, by omega⟩ ?_
    refine p_istore (pc := 57) (ls' := [(4, _), (5, _), (0, _), (1, _), (2, _), (3, _)]) C dX4_fillLosses_57 (by decide) rfl ?_
    refine p_iincC (pc := 59) (w := 4) (ls' := [(5, _), (4, _), (0, _), (1, _), (2, _), (3, _)]) C dX4_fillLosses_59 (by decide) rfl (by decide) (by decide) rfl ?_
    refine p_goto (pc := 62) (tgt := 25) C dX4_fillLosses_62 (by decide) ?_
    refine p_iload (pc := 25) C dX4_fillLosses_25 rfl ?_
    refine p_iconst (pc := 27) C dX4_fillLosses_27 (by decide) ?_
    refine p_icmp_ge (pc := 28) (tgt := 65) C dX4_fillLosses_28 (by decide) (fun c_28 => ?_) (fun h => absurd h (by decide))
    refine p_vret (pc := 65) C dX4_fillLosses_65 ?_
    refine ⟨rfl, _, rfl, ?_⟩
    intro j j0 j1
    rcases (show j = 0 ∨ j = 1 ∨ j = 2 ∨ j = 3 by omega) with rfl | rfl | rfl | rfl
    all_goals simp (disch := omega) only [fup_s, fup_n, los, cum, cl0, if_pos, if_neg, ne_eq, Int.reduceEq, not_false_eq_true, not_true_eq_false, and_true, and_false, if_true, if_false, Int.reduceLT, true_and]
    all_goals omega
  · refine p_iload_n (pc := 0) C dX4_fillLosses_0 rfl ?_
    refine p_istore (pc := 1) (ls' := [(4, _), (0, _), (1, _), (2, _), (3, _)]) C dX4_fillLosses_1 (by decide) rfl ?_
    refine p_aload_n (pc := 3) C dX4_fillLosses_3 rfl ?_
    refine p_iload_n (pc := 4) C dX4_fillLosses_4 rfl ?_
    refine p_iload (pc := 5) C dX4_fillLosses_5 rfl ?_
    refine p_aload_n (pc := 7) C dX4_fillLosses_7 rfl ?_
    refine p_iload_n (pc := 8) C dX4_fillLosses_8 rfl ?_
    refine p_iald (pc := 9) C dX4_fillLosses_9 (by first | exact ha | exact hc) (by (repeat refine mg_n (by omega) ?_); first | assumption | exact mup_s _ _ _) (by omega) ?_
    try refine p_top (fup_s _ _ _) ?_
    refine p_min (pc := 10) C km_X4_298 dX4_fillLosses_10 (Nat.le_of_ble_eq_true rfl) ?_
    refine p_iast (pc := 13) C dX4_fillLosses_13 (by first | exact ha | exact hc) (by (repeat refine mg_n (by omega) ?_); first | assumption | exact mup_s _ _ _) (by omega) ?_
    try refine p_mem (mup_mup _ _ _ _) ?_
    refine p_iload (pc := 14) C dX4_fillLosses_14 rfl ?_
    refine p_aload_n (pc := 16) C dX4_fillLosses_16 rfl ?_
    refine p_iload_n (pc := 17) C dX4_fillLosses_17 rfl ?_
    refine p_iald (pc := 18) C dX4_fillLosses_18 (by first | exact ha | exact hc) (by (repeat refine mg_n (by omega) ?_); first | assumption | exact mup_s _ _ _) (by omega) ?_
    try refine p_top (fup_s _ _ _) ?_
    refine p_isub (pc := 19) C dX4_fillLosses_19 ⟨by omega, by omega⟩ ?_
    refine p_istore (pc := 20) (ls' := [(4, _), (0, _), (1, _), (2, _), (3, _)]) C dX4_fillLosses_20 (by decide) rfl ?_
    refine p_iconst (pc := 22) C dX4_fillLosses_22 (by decide) ?_
    refine p_istore (pc := 23) (ls' := [(5, _), (4, _), (0, _), (1, _), (2, _), (3, _)]) C dX4_fillLosses_23 (by decide) rfl ?_
    refine p_iload (pc := 25) C dX4_fillLosses_25 rfl ?_
    refine p_iconst (pc := 27) C dX4_fillLosses_27 (by decide) ?_
    refine p_icmp_ge (pc := 28) (tgt := 65) C dX4_fillLosses_28 (by decide) (fun h => absurd h (by decide)) (fun c_28 => ?_)
    refine p_iload (pc := 31) C dX4_fillLosses_31 rfl ?_
    refine p_iload_n (pc := 33) C dX4_fillLosses_33 rfl ?_
    refine p_icmp_eq (pc := 34) (tgt := 59) C dX4_fillLosses_34 (by decide) (fun h => absurd h (by decide)) (fun c_34 => ?_)
    refine p_aload_n (pc := 37) C dX4_fillLosses_37 rfl ?_
    refine p_iload (pc := 38) C dX4_fillLosses_38 rfl ?_
    refine p_iload (pc := 40) C dX4_fillLosses_40 rfl ?_
    refine p_aload_n (pc := 42) C dX4_fillLosses_42 rfl ?_
    refine p_iload (pc := 43) C dX4_fillLosses_43 rfl ?_
    refine p_iald (pc := 45) C dX4_fillLosses_45 (by first | exact ha | exact hc) (by (repeat refine mg_n (by omega) ?_); first | assumption | exact mup_s _ _ _) (by omega) ?_
    try refine p_top (fup_s _ _ _) ?_
    refine p_min (pc := 46) C km_X4_298 dX4_fillLosses_46 (Nat.le_of_ble_eq_true rfl) ?_
    refine p_iast (pc := 49) C dX4_fillLosses_49 (by first | exact ha | exact hc) (by (repeat refine mg_n (by omega) ?_); first | assumption | exact mup_s _ _ _) (by omega) ?_
    try refine p_mem (mup_mup _ _ _ _) ?_
    refine p_iload (pc := 50) C dX4_fillLosses_50 rfl ?_
    refine p_aload_n (pc := 52) C dX4_fillLosses_52 rfl ?_
    refine p_iload (pc := 53) C dX4_fillLosses_53 rfl ?_
    refine p_iald (pc := 55) C dX4_fillLosses_55 (by first | exact ha | exact hc) (by (repeat refine mg_n (by omega) ?_); first | assumption | exact mup_s _ _ _) (by omega) ?_
    try refine p_top (fup_s _ _ _) ?_
    refine p_isub (pc := 56) C dX4_fillLosses_56 ⟨by omega, by omega⟩ ?_
    refine p_istore (pc := 57) (ls' := [(4, _), (5, _), (0, _), (1, _), (2, _), (3, _)]) C dX4_fillLosses_57 (by decide) rfl ?_
    refine p_iincC (pc := 59) (w := 1) (ls' := [(5, _), (4, _), (0, _), (1, _), (2, _), (3, _)]) C dX4_fillLosses_59 (by decide) rfl (by decide) (by decide) rfl ?_
    refine p_goto (pc := 62) (tgt := 25) C dX4_fillLosses_62 (by decide) ?_
    refine p_iload (pc := 25) C dX4_fillLosses_25 rfl ?_
    refine p_iconst (pc := 27) C dX4_fillLosses_27 (by decide) ?_
    refine p_icmp_ge (pc := 28) (tgt := 65) C dX4_fillLosses_28 (by decide) (fun h => absurd h (by decide)) (fun c_28 => ?_)
    refine p_iload (pc := 31) C dX4_fillLosses_31 rfl ?_
    refine p_iload_n (pc := 33) C dX4_fillLosses_33 rfl ?_
    refine p_icmp_eq (pc := 34) (tgt := 59) C dX4_fillLosses_34 (by decide) (fun c_34 => ?_) (fun h => absurd h (by decide))
    refine p_iincC (pc := 59) (w := 2) (ls' := [(5, _), (4, _), (0, _), (1, _), (2, _), (3, _)]) C dX4_fillLosses_59 (by decide) rfl (by decide) (by decide) rfl ?_
    refine p_goto (pc := 62) (tgt := 25) C dX4_fillLosses_62 (by decide) ?_
    refine p_iload (pc := 25) C dX4_fillLosses_25 rfl ?_
    refine p_iconst (pc := 27) C dX4_fillLosses_27 (by decide) ?_
    refine p_icmp_ge (pc := 28) (tgt := 65) C dX4_fillLosses_28 (by decide) (fun h => absurd h (by decide)) (fun c_28 => ?_)
    refine p_iload (pc := 31) C dX4_fillLosses_31 rfl ?_
    refine p_iload_n (pc := 33) C dX4_fillLosses_33 rfl ?_
    refine p_icmp_eq (pc := 34) (tgt := 59) C dX4_fillLosses_34 (by decide) (fun h => absurd h (by decide)) (fun c_34 => ?_)
    refine p_aload_n (pc := 37) C dX4_fillLosses_37 rfl ?_
    refine p_iload (pc := 38) C dX4_fillLosses_38 rfl ?_
    refine p_iload (pc := 40) C dX4_fillLosses_40 rfl ?_
    refine p_aload_n (pc := 42) C dX4_fillLosses_42 rfl ?_
    refine p_iload (pc := 43) C dX4_fillLosses_43 rfl ?_
    refine p_iald (pc := 45) C dX4_fillLosses_45 (by first | exact ha | exact hc) (by (repeat refine mg_n (by omega) ?_); first | assumption | exact mup_s _ _ _) (by omega) ?_
    try refine p_top (fup_s _ _ _) ?_
    refine p_min (pc := 46) C km_X4_298 dX4_fillLosses_46 (Nat.le_of_ble_eq_true rfl) ?_
    refine p_iast (pc := 49) C dX4_fillLosses_49 (by first | exact ha | exact hc) (by (repeat refine mg_n (by omega) ?_); first | assumption | exact mup_s _ _ _) (by omega) ?_
    try refine p_mem (mup_mup _ _ _ _) ?_
    refine p_iload (pc := 50) C dX4_fillLosses_50 rfl ?_
    refine p_aload_n (pc := 52) C dX4_fillLosses_52 rfl ?_
    refine p_iload (pc := 53) C dX4_fillLosses_53 rfl ?_
    refine p_iald (pc := 55) C dX4_fillLosses_55 (by first | exact ha | exact hc) (by (repeat refine mg_n (by omega) ?_); first | assumption | exact mup_s _ _ _) (by omega) ?_
    try refine p_top (fup_s _ _ _) ?_
    refine p_isub (pc := 56) C dX4_fillLosses_56 ⟨by omega, by omega⟩ ?_
    refine p_istore (pc := 57) (ls' := [(4, _), (5, _), (0, _), (1, _), (2, _), (3, _)]) C dX4_fillLosses_57 (by decide) rfl ?_
    refine p_iincC (pc := 59) (w := 3) (ls' := [(5, _), (4, _), (0, _), (1, _), (2, _), (3, _)]) C dX4_fillLosses_59 (by decide) rfl (by decide) (by decide) rfl ?_
    refine p_goto (pc := 62) (tgt := 25) C dX4_fillLosses_62 (by decide) ?_
    refine p_iload (pc := 25) C dX4_fillLosses_25 rfl ?_
    refine p_iconst (pc := 27) C dX4_fillLosses_27 (by decide) ?_
    refine p_icmp_ge (pc := 28) (tgt := 65) C dX4_fillLosses_28 (by decide) (fun h => absurd h (by decide)) (fun c_28 => ?_)
    refine p_iload (pc := 31) C dX4_fillLosses_31 rfl ?_
    refine p_iload_n (pc := 33) C dX4_fillLosses_33 rfl ?_
    refine p_icmp_eq (pc := 34) (tgt := 59) C dX4_fillLosses_34 (by decide) (fun h => absurd h (by decide)) (fun c_34 => ?_)
    refine p_aload_n (pc := 37) C dX4_fillLosses_37 rfl ?_
    refine p_iload (pc := 38) C dX4_fillLosses_38 rfl ?_
    refine p_iload (pc := 40) C dX4_fillLosses_40 rfl ?_
    refine p_aload_n (pc := 42) C dX4_fillLosses_42 rfl ?_
    refine p_iload (pc := 43) C dX4_fillLosses_43 rfl ?_
    refine p_iald (pc := 45) C dX4_fillLosses_45 (by first | exact ha | exact hc) (by (repeat refine mg_n (by omega) ?_); first | assumption | exact mup_s _ _ _) (by omega) ?_
    try refine p_top (fup_s _ _ _) ?_
    refine p_min (pc := 46) C km_X4_298 dX4_fillLosses_46 (Nat.le_of_ble_eq_true rfl) ?_
    refine p_iast (pc := 49) C dX4_fillLosses_49 (by first | exact ha | exact hc) (by (repeat refine mg_n (by omega) ?_); first | assumption | exact mup_s _ _ _) (by omega) ?_
    try refine p_mem (mup_mup _ _ _ _) ?_
    refine p_iload (pc := 50) C dX4_fillLosses_50 rfl ?_
    refine p_aload_n (pc := 52) C dX4_fillLosses_52 rfl ?_
    refine p_iload (pc := 53) C dX4_fillLosses_53 rfl ?_
    refine p_iald (pc := 55) C dX4_fillLosses_55 (by first | exact ha | exact hc) (by (repeat refine mg_n (by omega) ?_); first | assumption | exact mup_s _ _ _) (by omega) ?_
    try refine p_top (fup_s _ _ _) ?_
    refine p_isub (pc := 56) C dX4_fillLosses_56 ⟨by omega, by omega⟩ ?_
    refine p_istore (pc := 57) (ls' := [(4, _), (5, _), (0, _), (1, _), (2, _), (3, _)]) C dX4_fillLosses_57 (by decide) rfl ?_
    refine p_iincC (pc := 59) (w := 4) (ls' := [(5, _), (4, _), (0, _), (1, _), (2, _), (3, _)]) C dX4_fillLosses_59 (by decide) rfl (by decide) (by decide) rfl ?_
    refine p_goto (pc := 62) (tgt := 25) C dX4_fillLosses_62 (by decide) ?_
    refine p_iload (pc := 25) C dX4_fillLosses_25 rfl ?_
    refine p_iconst (pc := 27) C dX4_fillLosses_27 (by decide) ?_
    refine p_icmp_ge (pc := 28) (tgt := 65) C dX4_fillLosses_28 (by decide) (fun c_28 => ?_) (fun h => absurd h (by decide))
    refine p_vret (pc := 65) C dX4_fillLosses_65 ?_
    refine ⟨rfl, _, rfl, ?_⟩
    intro j j0 j1
    rcases (show j = 0 ∨ j = 1 ∨ j = 2 ∨ j = 3 by omega) with rfl | rfl | rfl | rfl
    all_goals simp (disch := omega) only [fup_s, fup_n, los, cum, cl0, if_pos, if_neg, ne_eq, Int.reduceEq, not_false_eq_true, not_true_eq_false, and_true, and_false, if_true, if_false, Int.reduceLT, true_and]
    all_goals omega
  · refine p_iload_n (pc := 0) C dX4_fillLosses_0 rfl ?_
    refine p_istore (pc := 1) (ls' := [(4, _), (0, _), (1, _), (2, _), (3, _)]) C dX4_fillLosses_1 (by decide) rfl ?_
    refine p_aload_n (pc := 3) C dX4_fillLosses_3 rfl ?_
    refine p_iload_n (pc := 4) C dX4_fillLosses_4 rfl ?_
    refine p_iload (pc := 5) C dX4_fillLosses_5 rfl ?_
    refine p_aload_n (pc := 7) C dX4_fillLosses_7 rfl ?_
    refine p_iload_n (pc := 8) C dX4_fillLosses_8 rfl ?_
    refine p_iald (pc := 9) C dX4_fillLosses_9 (by first | exact ha | exact hc) (by (repeat refine mg_n (by omega) ?_); first | assumption | exact mup_s _ _ _) (by omega) ?_
    try refine p_top (fup_s _ _ _) ?_
    refine p_min (pc := 10) C km_X4_298 dX4_fillLosses_10 (Nat.le_of_ble_eq_true rfl) ?_
    refine p_iast (pc := 13) C dX4_fillLosses_13 (by first | exact ha | exact hc) (by (repeat refine mg_n (by omega) ?_); first | assumption | exact mup_s _ _ _) (by omega) ?_
    try refine p_mem (mup_mup _ _ _ _) ?_
    refine p_iload (pc := 14) C dX4_fillLosses_14 rfl ?_
    refine p_aload_n (pc := 16) C dX4_fillLosses_16 rfl ?_
    refine p_iload_n (pc := 17) C dX4_fillLosses_17 rfl ?_
    refine p_iald (pc := 18) C dX4_fillLosses_18 (by first | exact ha | exact hc) (by (repeat refine mg_n (by omega) ?_); first | assumption | exact mup_s _ _ _) (by omega) ?_
    try refine p_top (fup_s _ _ _) ?_
    refine p_isub (pc := 19) C dX4_fillLosses_19 ⟨by omega, by omega⟩ ?_
    refine p_istore (pc := 20) (ls' := [(4, _), (0, _), (1, _), (2, _), (3, _)]) C dX4_fillLosses_20 (by decide) rfl ?_
    refine p_iconst (pc := 22) C dX4_fillLosses_22 (by decide) ?_
    refine p_istore (pc := 23) (ls' := [(5, _), (4, _), (0, _), (1, _), (2, _), (3, _)]) C dX4_fillLosses_23 (by decide) rfl ?_
    refine p_iload (pc := 25) C dX4_fillLosses_25 rfl ?_
    refine p_iconst (pc := 27) C dX4_fillLosses_27 (by decide) ?_
    refine p_icmp_ge (pc := 28) (tgt := 65) C dX4_fillLosses_28 (by decide) (fun h => absurd h (by decide)) (fun c_28 => ?_)
    refine p_iload (pc := 31) C dX4_fillLosses_31 rfl ?_
    refine p_iload_n (pc := 33) C dX4_fillLosses_33 rfl ?_
    refine p_icmp_eq (pc := 34) (tgt := 59) C dX4_fillLosses_34 (by decide) (fun h => absurd h (by decide)) (fun c_34 => ?_)
    refine p_aload_n (pc := 37) C dX4_fillLosses_37 rfl ?_
    refine p_iload (pc := 38) C dX4_fillLosses_38 rfl ?_
    refine p_iload (pc := 40) C dX4_fillLosses_40 rfl ?_
    refine p_aload_n (pc := 42) C dX4_fillLosses_42 rfl ?_
    refine p_iload (pc := 43) C dX4_fillLosses_43 rfl ?_
    refine p_iald (pc := 45) C dX4_fillLosses_45 (by first | exact ha | exact hc) (by (repeat refine mg_n (by omega) ?_); first | assumption | exact mup_s _ _ _) (by omega) ?_
    try refine p_top (fup_s _ _ _) ?_
    refine p_min (pc := 46) C km_X4_298 dX4_fillLosses_46 (Nat.le_of_ble_eq_true rfl) ?_
    refine p_iast (pc := 49) C dX4_fillLosses_49 (by first | exact ha | exact hc) (by (repeat refine mg_n (by omega) ?_); first | assumption | exact mup_s _ _ _) (by omega) ?_
    try refine p_mem (mup_mup _ _ _ _) ?_
    refine p_iload (pc := 50) C dX4_fillLosses_50 rfl ?_
    refine p_aload_n (pc := 52) C dX4_fillLosses_52 rfl ?_
    refine p_iload (pc := 53) C dX4_fillLosses_53 rfl ?_
    refine p_iald (pc := 55) C dX4_fillLosses_55 (by first | exact ha | exact hc) (by (repeat refine mg_n (by omega) ?_); first | assumption | exact mup_s _ _ _) (by omega) ?_
    try refine p_top (fup_s _ _ _) ?_
    refine p_isub (pc := 56) C dX4_fillLosses_56 ⟨by omega, by omega⟩ ?_
    refine p_istore (pc := 57) (ls' := [(4, _), (5, _), (0, _), (1, _), (2, _), (3, _)]) C dX4_fillLosses_57 (by decide) rfl ?_
    refine p_iincC (pc := 59) (w := 1) (ls' := [(5, _), (4, _), (0, _), (1, _), (2, _), (3, _)]) C dX4_fillLosses_59 (by decide) rfl (by decide) (by decide) rfl ?_
    refine p_goto (pc := 62) (tgt := 25) C dX4_fillLosses_62 (by decide) ?_
    refine p_iload (pc := 25) C dX4_fillLosses_25 rfl ?_
    refine p_iconst (pc := 27) C dX4_fillLosses_27 (by decide) ?_
    refine p_icmp_ge (pc := 28) (tgt := 65) C dX4_fillLosses_28 (by decide) (fun h => absurd h (by decide)) (fun c_28 => ?_)
    refine p_iload (pc := 31) C dX4_fillLosses_31 rfl ?_
    refine p_iload_n (pc := 33) C dX4_fillLosses_33 rfl ?_
    refine p_icmp_eq (pc := 34) (tgt := 59) C dX4_fillLosses_34 (by decide) (fun h => absurd h (by decide)) (fun c_34 => ?_)
    refine p_aload_n (pc := 37) C dX4_fillLosses_37 rfl ?_
    refine p_iload (pc := 38) C dX4_fillLosses_38 rfl ?_
    refine p_iload (pc := 40) C dX4_fillLosses_40 rfl ?_
    refine p_aload_n (pc := 42) C dX4_fillLosses_42 rfl ?_
    refine p_iload (pc := 43) C dX4_fillLosses_43 rfl ?_
    refine p_iald (pc := 45) C dX4_fillLosses_45 (by first | exact ha | exact hc) (by (repeat refine mg_n (by omega) ?_); first | assumption | exact mup_s _ _ _) (by omega) ?_
    try refine p_top (fup_s _ _ _) ?_
    refine p_min (pc := 46) C km_X4_298 dX4_fillLosses_46 (Nat.le_of_ble_eq_true rfl) ?_
    refine p_iast (pc := 49) C dX4_fillLosses_49 (by first | exact ha | exact hc) (by (repeat refine mg_n (by omega) ?_); first | assumption | exact mup_s _ _ _) (by omega) ?_
    try refine p_mem (mup_mup _ _ _ _) ?_
    refine p_iload (pc := 50) C dX4_fillLosses_50 rfl ?_
    refine p_aload_n (pc := 52) C dX4_fillLosses_52 rfl ?_
    refine p_iload (pc := 53) C dX4_fillLosses_53 rfl ?_
    refine p_iald (pc := 55) C dX4_fillLosses_55 (by first | exact ha | exact hc) (by (repeat refine mg_n (by omega) ?_); first | assumption | exact mup_s _ _ _) (by omega) ?_
    try refine p_top (fup_s _ _ _) ?_
    refine p_isub (pc := 56) C dX4_fillLosses_56 ⟨by omega, by omega⟩ ?_
    refine p_istore (pc := 57) (ls' := [(4, _), (5, _), (0, _), (1, _), (2, _), (3, _)]) C dX4_fillLosses_57 (by decide) rfl ?_
    refine p_iincC (pc := 59) (w := 2) (ls' := [(5, _), (4, _), (0, _), (1, _), (2, _), (3, _)]) C dX4_fillLosses_59 (by decide) rfl (by decide) (by decide) rfl ?_
    refine p_goto (pc := 62) (tgt := 25) C dX4_fillLosses_62 (by decide) ?_
    refine p_iload (pc := 25) C dX4_fillLosses_25 rfl ?_
    refine p_iconst (pc := 27) C dX4_fillLosses_27 (by decide) ?_
    refine p_icmp_ge (pc := 28) (tgt := 65) C dX4_fillLosses_28 (by decide) (fun h => absurd h (by decide)) (fun c_28 => ?_)
    refine p_iload (pc := 31) C dX4_fillLosses_31 rfl ?_
    refine p_iload_n (pc := 33) C dX4_fillLosses_33 rfl ?_
    refine p_icmp_eq (pc := 34) (tgt := 59) C dX4_fillLosses_34 (by decide) (fun c_34 => ?_) (fun h => absurd h (by decide))
    refine p_iincC (pc := 59) (w := 3) (ls' := [(5, _), (4, _), (0, _), (1, _), (2, _), (3, _)]) C dX4_fillLosses_59 (by decide) rfl (by decide) (by decide) rfl ?_
    refine p_goto (pc := 62) (tgt := 25) C dX4_fillLosses_62 (by decide) ?_
    refine p_iload (pc := 25) C dX4_fillLosses_25 rfl ?_
    refine p_iconst (pc := 27) C dX4_fillLosses_27 (by decide) ?_
    refine p_icmp_ge (pc := 28) (tgt := 65) C dX4_fillLosses_28 (by decide) (fun h => absurd h (by decide)) (fun c_28 => ?_)
    refine p_iload (pc := 31) C dX4_fillLosses_31 rfl ?_
    refine p_iload_n (pc := 33) C dX4_fillLosses_33 rfl ?_
    refine p_icmp_eq (pc := 34) (tgt := 59) C dX4_fillLosses_34 (by decide) (fun h => absurd h (by decide)) (fun c_34 => ?_)
    refine p_aload_n (pc := 37) C dX4_fillLosses_37 rfl ?_
    refine p_iload (pc := 38) C dX4_fillLosses_38 rfl ?_
    refine p_iload (pc := 40) C dX4_fillLosses_40 rfl ?_
    refine p_aload_n (pc := 42) C dX4_fillLosses_42 rfl ?_
    refine p_iload (pc := 43) C dX4_fillLosses_43 rfl ?_
    refine p_iald (pc := 45) C dX4_fillLosses_45 (by first | exact ha | exact hc) (by (repeat refine mg_n (by omega) ?_); first | assumption | exact mup_s _ _ _) (by omega) ?_
    try refine p_top (fup_s _ _ _) ?_
    refine p_min (pc := 46) C km_X4_298 dX4_fillLosses_46 (Nat.le_of_ble_eq_true rfl) ?_
    refine p_iast (pc := 49) C dX4_fillLosses_49 (by first | exact ha | exact hc) (by (repeat refine mg_n (by omega) ?_); first | assumption | exact mup_s _ _ _) (by omega) ?_
    try refine p_mem (mup_mup _ _ _ _) ?_
    refine p_iload (pc := 50) C dX4_fillLosses_50 rfl ?_
    refine p_aload_n (pc := 52) C dX4_fillLosses_52 rfl ?_
    refine p_iload (pc := 53) C dX4_fillLosses_53 rfl ?_
    refine p_iald (pc := 55) C dX4_fillLosses_55 (by first | exact ha | exact hc) (by (repeat refine mg_n (by omega) ?_); first | assumption | exact mup_s _ _ _) (by omega) ?_
    try refine p_top (fup_s _ _ _) ?_
    refine p_isub (pc := 56) C dX4_fillLosses_56 ⟨by omega, by omega⟩ ?_
    refine p_istore (pc := 57) (ls' := [(4, _), (5, _), (0, _), (1, _), (2, _), (3, _)]) C dX4_fillLosses_57 (by decide) rfl ?_
    refine p_iincC (pc := 59) (w := 4) (ls' := [(5, _), (4, _), (0, _), (1, _), (2, _), (3, _)]) C dX4_fillLosses_59 (by decide) rfl (by decide) (by decide) rfl ?_
    refine p_goto (pc := 62) (tgt := 25) C dX4_fillLosses_62 (by decide) ?_
    refine p_iload (pc := 25) C dX4_fillLosses_25 rfl ?_
    refine p_iconst (pc := 27) C dX4_fillLosses_27 (by decide) ?_
    refine p_icmp_ge (pc := 28) (tgt := 65) C dX4_fillLosses_28 (by decide) (fun c_28 => ?_) (fun h => absurd h (by decide))
    refine p_vret (pc := 65) C dX4_fillLosses_65 ?_
    refine ⟨rfl, _, rfl, ?_⟩
    intro j j0 j1
    rcases (show j = 0 ∨ j = 1 ∨ j = 2 ∨ j = 3 by omega) with rfl | rfl | rfl | rfl
    all_goals simp (disch := omega) only [fup_s, fup_n, los, cum, cl0, if_pos, if_neg, ne_eq, Int.reduceEq, not_false_eq_true, not_true_eq_false, and_true, and_false, if_true, if_false, Int.reduceLT, true_and]
    all_goals omega
  · refine p_iload_n (pc := 0) C dX4_fillLosses_0 rfl ?_
    refine p_istore (pc := 1) (ls' := [(4, _), (0, _), (1, _), (2, _), (3, _)]) C dX4_fillLosses_1 (by decide) rfl ?_
    refine p_aload_n (pc := 3) C dX4_fillLosses_3 rfl ?_
    refine p_iload_n (pc := 4) C dX4_fillLosses_4 rfl ?_
    refine p_iload (pc := 5) C dX4_fillLosses_5 rfl ?_
    refine p_aload_n (pc := 7) C dX4_fillLosses_7 rfl ?_
    refine p_iload_n (pc := 8) C dX4_fillLosses_8 rfl ?_
    refine p_iald (pc := 9) C dX4_fillLosses_9 (by first | exact ha | exact hc) (by (repeat refine mg_n (by omega) ?_); first | assumption | exact mup_s _ _ _) (by omega) ?_
    try refine p_top (fup_s _ _ _) ?_
    refine p_min (pc := 10) C km_X4_298 dX4_fillLosses_10 (Nat.le_of_ble_eq_true rfl) ?_
    refine p_iast (pc := 13) C dX4_fillLosses_13 (by first | exact ha | exact hc) (by (repeat refine mg_n (by omega) ?_); first | assumption | exact mup_s _ _ _) (by omega) ?_
    try refine p_mem (mup_mup _ _ _ _) ?_
    refine p_iload (pc := 14) C dX4_fillLosses_14 rfl ?_
    refine p_aload_n (pc := 16) C dX4_fillLosses_16 rfl ?_
    refine p_iload_n (pc := 17) C dX4_fillLosses_17 rfl ?_
    refine p_iald (pc := 18) C dX4_fillLosses_18 (by first | exact ha | exact hc) (by (repeat refine mg_n (by omega) ?_); first | assumption | exact mup_s _ _ _) (by omega) ?_
    try refine p_top (fup_s _ _ _) ?_
    refine p_isub (pc := 19) C dX4_fillLosses_19 ⟨by omega, by omega⟩ ?_
    refine p_istore (pc := 20) (ls' := [(4, _), (0, _), (1, _), (2, _), (3, _)]) C dX4_fillLosses_20 (by decide) rfl ?_
    refine p_iconst (pc := 22) C dX4_fillLosses_22 (by decide) ?_
    refine p_istore (pc := 23) (ls' := [(5, _), (4, _), (0, _), (1, _), (2, _), (3, _)]) C dX4_fillLosses_23 (by decide) rfl ?_
    refine p_iload (pc := 25) C dX4_fillLosses_25 rfl ?_
    refine p_iconst (pc := 27) C dX4_fillLosses_27 (by decide) ?_
    refine p_icmp_ge (pc := 28) (tgt := 65) C dX4_fillLosses_28 (by decide) (fun h => absurd h (by decide)) (fun c_28 => ?_)
    refine p_iload (pc := 31) C dX4_fillLosses_31 rfl ?_
    refine p_iload_n (pc := 33) C dX4_fillLosses_33 rfl ?_
    refine p_icmp_eq (pc := 34) (tgt := 59) C dX4_fillLosses_34 (by decide) (fun h => absurd h (by decide)) (fun c_34 => ?_)
    refine p_aload_n (pc := 37) C dX4_fillLosses_37 rfl ?_
    refine p_iload (pc := 38) C dX4_fillLosses_38 rfl ?_
    refine p_iload (pc := 40) C dX4_fillLosses_40 rfl ?_
    refine p_aload_n (pc := 42) C dX4_fillLosses_42 rfl ?_
    refine p_iload (pc := 43) C dX4_fillLosses_43 rfl ?_
    refine p_iald (pc := 45) C dX4_fillLosses_45 (by first | exact ha | exact hc) (by (repeat refine mg_n (by omega) ?_); first | assumption | exact mup_s _ _ _) (by omega) ?_
    try refine p_top (fup_s _ _ _) ?_
    refine p_min (pc := 46) C km_X4_298 dX4_fillLosses_46 (Nat.le_of_ble_eq_true rfl) ?_
    refine p_iast (pc := 49) C dX4_fillLosses_49 (by first | exact ha | exact hc) (by (repeat refine mg_n (by omega) ?_); first | assumption | exact mup_s _ _ _) (by omega) ?_
    try refine p_mem (mup_mup _ _ _ _) ?_
    refine p_iload (pc := 50) C dX4_fillLosses_50 rfl ?_
    refine p_aload_n (pc := 52) C dX4_fillLosses_52 rfl ?_
    refine p_iload (pc := 53) C dX4_fillLosses_53 rfl ?_
    refine p_iald (pc := 55) C dX4_fillLosses_55 (by first | exact ha | exact hc) (by (repeat refine mg_n (by omega) ?_); first | assumption | exact mup_s _ _ _) (by omega) ?_
    try refine p_top (fup_s _ _ _) ?_
    refine p_isub (pc := 56) C dX4_fillLosses_56 ⟨by omega, by omega⟩ ?_
    refine p_istore (pc := 57) (ls' := [(4, _), (5, _), (0, _), (1, _), (2, _), (3, _)]) C dX4_fillLosses_57 (by decide) rfl ?_
    refine p_iincC (pc := 59) (w := 1) (ls' := [(5, _), (4, _), (0, _), (1, _), (2, _), (3, _)]) C dX4_fillLosses_59 (by decide) rfl (by decide) (by decide) rfl ?_
    refine p_goto (pc := 62) (tgt := 25) C dX4_fillLosses_62 (by decide) ?_
    refine p_iload (pc := 25) C dX4_fillLosses_25 rfl ?_
    refine p_iconst (pc := 27) C dX4_fillLosses_27 (by decide) ?_
    refine p_icmp_ge (pc := 28) (tgt := 65) C dX4_fillLosses_28 (by decide) (fun h => absurd h (by decide)) (fun c_28 => ?_)
    refine p_iload (pc := 31) C dX4_fillLosses_31 rfl ?_
    refine p_iload_n (pc := 33) C dX4_fillLosses_33 rfl ?_
    refine p_icmp_eq (pc := 34) (tgt := 59) C dX4_fillLosses_34 (by decide) (fun h => absurd h (by decide)) (fun c_34 => ?_)
    refine p_aload_n (pc := 37) C dX4_fillLosses_37 rfl ?_
    refine p_iload (pc := 38) C dX4_fillLosses_38 rfl ?_
    refine p_iload (pc := 40) C dX4_fillLosses_40 rfl ?_
    refine p_aload_n (pc := 42) C dX4_fillLosses_42 rfl ?_
    refine p_iload (pc := 43) C dX4_fillLosses_43 rfl ?_
    refine p_iald (pc := 45) C dX4_fillLosses_45 (by first | exact ha | exact hc) (by (repeat refine mg_n (by omega) ?_); first | assumption | exact mup_s _ _ _) (by omega) ?_
    try refine p_top (fup_s _ _ _) ?_
    refine p_min (pc := 46) C km_X4_298 dX4_fillLosses_46 (Nat.le_of_ble_eq_true rfl) ?_
    refine p_iast (pc := 49) C dX4_fillLosses_49 (by first | exact ha | exact hc) (by (repeat refine mg_n (by omega) ?_); first | assumption | exact mup_s _ _ _) (by omega) ?_
    try refine p_mem (mup_mup _ _ _ _) ?_
    refine p_iload (pc := 50) C dX4_fillLosses_50 rfl ?_
    refine p_aload_n (pc := 52) C dX4_fillLosses_52 rfl ?_
    refine p_iload (pc := 53) C dX4_fillLosses_53 rfl ?_
    refine p_iald (pc := 55) C dX4_fillLosses_55 (by first | exact ha | exact hc) (by (repeat refine mg_n (by omega) ?_); first | assumption | exact mup_s _ _ _) (by omega) ?_
    try refine p_top (fup_s _ _ _) ?_
    refine p_isub (pc := 56) C dX4_fillLosses_56 ⟨by omega, by omega⟩ ?_
    refine p_istore (pc := 57) (ls' := [(4, _), (5, _), (0, _), (1, _), (2, _), (3, _)]) C dX4_fillLosses_57 (by decide) rfl ?_
    refine p_iincC (pc := 59) (w := 2) (ls' := [(5, _), (4, _), (0, _), (1, _), (2, _), (3, _)]) C dX4_fillLosses_59 (by decide) rfl (by decide) (by decide) rfl ?_
    refine p_goto (pc := 62) (tgt := 25) C dX4_fillLosses_62 (by decide) ?_
    refine p_iload (pc := 25) C dX4_fillLosses_25 rfl ?_
    refine p_iconst (pc := 27) C dX4_fillLosses_27 (by decide) ?_
    refine p_icmp_ge (pc := 28) (tgt := 65) C dX4_fillLosses_28 (by decide) (fun h => absurd h (by decide)) (fun c_28 => ?_)
    refine p_iload (pc := 31) C dX4_fillLosses_31 rfl ?_
    refine p_iload_n (pc := 33) C dX4_fillLosses_33 rfl ?_
    refine p_icmp_eq (pc := 34) (tgt := 59) C dX4_fillLosses_34 (by decide) (fun h => absurd h (by decide)) (fun c_34 => ?_)
    refine p_aload_n (pc := 37) C dX4_fillLosses_37 rfl ?_
    refine p_iload (pc := 38) C dX4_fillLosses_38 rfl ?_
    refine p_iload (pc := 40) C dX4_fillLosses_40 rfl ?_
    refine p_aload_n (pc := 42) C dX4_fillLosses_42 rfl ?_
    refine p_iload (pc := 43) C dX4_fillLosses_43 rfl ?_
    refine p_iald (pc := 45) C dX4_fillLosses_45 (by first | exact ha | exact hc) (by (repeat refine mg_n (by omega) ?_); first | assumption | exact mup_s _ _ _) (by omega) ?_
    try refine p_top (fup_s _ _ _) ?_
    refine p_min (pc := 46) C km_X4_298 dX4_fillLosses_46 (Nat.le_of_ble_eq_true rfl) ?_
    refine p_iast (pc := 49) C dX4_fillLosses_49 (by first | exact ha | exact hc) (by (repeat refine mg_n (by omega) ?_); first | assumption | exact mup_s _ _ _) (by omega) ?_
    try refine p_mem (mup_mup _ _ _ _) ?_
    refine p_iload (pc := 50) C dX4_fillLosses_50 rfl ?_
    refine p_aload_n (pc := 52) C dX4_fillLosses_52 rfl ?_
    refine p_iload (pc := 53) C dX4_fillLosses_53 rfl ?_
    refine p_iald (pc := 55) C dX4_fillLosses_55 (by first | exact ha | exact hc) (by (repeat refine mg_n (by omega) ?_); first | assumption | exact mup_s _ _ _) (by omega) ?_
    try refine p_top (fup_s _ _ _) ?_
    refine p_isub (pc := 56) C dX4_fillLosses_56 ⟨by omega, by omega⟩ ?_
    refine p_istore (pc := 57) (ls' := [(4, _), (5, _), (0, _), (1, _), (2, _), (3, _)]) C dX4_fillLosses_57 (by decide) rfl ?_
    refine p_iincC (pc := 59) (w := 3) (ls' := [(5, _), (4, _), (0, _), (1, _), (2, _), (3, _)]) C dX4_fillLosses_59 (by decide) rfl (by decide) (by decide) rfl ?_
    refine p_goto (pc := 62) (tgt := 25) C dX4_fillLosses_62 (by decide) ?_
    refine p_iload (pc := 25) C dX4_fillLosses_25 rfl ?_
    refine p_iconst (pc := 27) C dX4_fillLosses_27 (by decide) ?_
    refine p_icmp_ge (pc := 28) (tgt := 65) C dX4_fillLosses_28 (by decide) (fun h => absurd h (by decide)) (fun c_28 => ?_)
    refine p_iload (pc := 31) C dX4_fillLosses_31 rfl ?_
    refine p_iload_n (pc := 33) C dX4_fillLosses_33 rfl ?_
    refine p_icmp_eq (pc := 34) (tgt := 59) C dX4_fillLosses_34 (by decide) (fun c_34 => ?_) (fun h => absurd h (by decide))
    refine p_iincC (pc := 59) (w := 4) (ls' := [(5, _), (4, _), (0, _), (1, _), (2, _), (3, _)]) C dX4_fillLosses_59 (by decide) rfl (by decide) (by decide) rfl ?_
    refine p_goto (pc := 62) (tgt := 25) C dX4_fillLosses_62 (by decide) ?_
    refine p_iload (pc := 25) C dX4_fillLosses_25 rfl ?_
    refine p_iconst (pc := 27) C dX4_fillLosses_27 (by decide) ?_
    refine p_icmp_ge (pc := 28) (tgt := 65) C dX4_fillLosses_28 (by decide) (fun c_28 => ?_) (fun h => absurd h (by decide))
    refine p_vret (pc := 65) C dX4_fillLosses_65 ?_
    refine ⟨rfl, _, rfl, ?_⟩
    intro j j0 j1
    rcases (show j = 0 ∨ j = 1 ∨ j = 2 ∨ j = 3 by omega) with rfl | rfl | rfl | rfl
    all_goals simp (disch := omega) only [fup_s, fup_n, los, cum, cl0, if_pos, if_neg, ne_eq, Int.reduceEq, not_false_eq_true, not_true_eq_false, and_true, and_false, if_true, if_false, Int.reduceLT, true_and]
    all_goals omega
