theorem mup_mup (μ : Int → ME) (a : Int) (o o' : ME) : mup (mup μ a o) a o' = mup μ a o' := by
  funext j; unfold mup; split <;> rfl
theorem mup_id {μ : Int → ME} {a : Int} {o : ME} (h : μ a = o) : mup μ a o = μ := by
  funext j; unfold mup; split
  · rename_i e; rw [e, h]
  · rfl
theorem mup_comm (μ : Int → ME) {a b : Int} (o o' : ME) (h : a ≠ b) : mup (mup μ a o) b o' = mup (mup μ b o') a o := by
  funext j; unfold mup; split
  · rename_i e; rw [if_neg (by omega)]
  · rfl
section PMPUT
variable {K : KX} {X : CX} {nL d : Nat} {Q : State → Prop} {cc : ByteArray} {own : String} {ret : Option FieldType} {pc : Nat} {ls : List (Nat × PV)} {st : List PV} {μ : Int → ME}
theorem p_putL (C : okX K X cc own nL d ret) {idx ci k : Nat} {a z : Int} {fs fs' : List PV} (F : FP own idx ci k .int) (dg : decode cc pc = .ok (.putfield idx, 3)) (ha : IR a) (hm : μ a = mO ci fs) (hk : k < fs.length) (hf : fs.set k (vI z) = fs') (kk : PW K X nL Q (pc + 3) ls st (mup μ a (mO ci fs'))) : PW K X nL Q pc ls (vI z :: vR a :: st) μ := by
  subst hf; exact p_put C F dg ha hm hk kk
theorem p_putLZ (C : okX K X cc own nL d ret) {idx ci k : Nat} {a z : Int} {fs fs' : List PV} (F : FP own idx ci k .boolean) (dg : decode cc pc = .ok (.putfield idx, 3)) (ha : IR a) (hm : μ a = mO ci fs) (hk : k < fs.length) (hz : z = 0 ∨ z = 1) (hf : fs.set k (vI z) = fs') (kk : PW K X nL Q (pc + 3) ls st (mup μ a (mO ci fs'))) : PW K X nL Q pc ls (vI z :: vR a :: st) μ := by
  subst hf; exact p_putZ C F dg ha hm hk hz kk
/-- fewer locals, in any order -/
theorem p_pick (ks : List Nat) {ls' : List (Nat × PV)} (h : ks.filterMap (fun k => ls[k]?) = ls') (k : PW K X nL Q pc ls' st μ) : PW K X nL Q pc ls st μ := fun H locs la hP hS hl hμ hL hs => by
  have hsub : ∀ q ∈ ls', q ∈ ls := fun q hq => by
    rw [← h] at hq
    obtain ⟨i, -, hi⟩ := List.mem_filterMap.mp hq
    exact List.mem_of_getElem? hi
  refine k H locs la hP hS ⟨hl.1, hl.2.1, fun q hq => ?_⟩ hμ (fun q hq => hL q (hsub q hq)) hs
  obtain ⟨q0, h0, rfl⟩ := List.mem_map.mp hq
  exact hl.2.2 _ (List.mem_map.mpr ⟨q0, hsub q0 h0, rfl⟩)
end PMPUT
/-- the first fault of taking cells: there, lane, length; lane asked, from, how many -/
def fot (th ln le as i n : Int) : Int := if th ≠ 0 ∧ ln ≠ as then 2 else if th = 0 then 1 else if n < 0 then 4 else if (0 ≤ i ∧ i ≤ le) ∧ n ≤ le - i then 0 else 3
def cAt (le : Int) (f : Int → Int) (i : Int) : Int := if 0 ≤ i ∧ i < le then f i else -9
/-- zeros before n -/
def fz (f : Int → Int) (n : Int) : Int → Int := fun j => if 0 ≤ j ∧ j < n then 0 else f j

set_option maxHeartbeats 4000000 in
set_option maxRecDepth 100000 in
theorem k_X0_reaches {K : KX} {d : Nat} {μ : Int → ME} {i n : Int} {a c th ln le : Int} (ha : IR a) (h1 : μ a = oR th ln le c) (hl : 0 ≤ le ∧ le ≤ 60) : Ct K (d + 1) yX0_reaches cX0_reaches 3 (some .boolean) [vR a, vI i, vI n] μ (pF (vI (if (0 ≤ i ∧ i ≤ le) ∧ n ≤ le - i then 1 else 0)) μ) := by
  refine Ct.of (by decide) (Nat.le_of_ble_eq_true rfl) (fun X C => ?_)
  refine p_iload_n (pc := 0) C dX0_reaches_0 rfl ?_
  refine p_aload_n (pc := 1) C dX0_reaches_1 rfl ?_
  refine p_get (pc := 2) C fl_X0_23 dX0_reaches_2 ha (by assumption) (by rfl) ?_
  refine p_callNF (pc := 5) C ln_X0_26 dX0_reaches_5 (k_X4_isUpTo) rfl rfl (Nat.le_of_ble_eq_true rfl) ?_
  refine p_ifeq_b (pc := 8) (tgt := 25) C dX0_reaches_8 (by decide) (fun c_8 => ?_) (fun c_8 => ?_)
  · refine p_iconst (pc := 25) C dX0_reaches_25 (by decide) ?_
    refine p_zret (pc := 26) C dX0_reaches_26 (by first | exact Or.inl rfl | exact Or.inr rfl | (split <;> simp)) ?_
    exact ⟨by first | rfl | (rw [if_pos (by omega)]) | (rw [if_neg (by omega)]) | (congr 2; omega), rfl⟩
  · refine p_iload_n (pc := 11) C dX0_reaches_11 rfl ?_
    refine p_aload_n (pc := 12) C dX0_reaches_12 rfl ?_
    refine p_get (pc := 13) C fl_X0_23 dX0_reaches_13 ha (by assumption) (by rfl) ?_
    refine p_iload_n (pc := 16) C dX0_reaches_16 rfl ?_
    refine p_isub (pc := 17) C dX0_reaches_17 ⟨by omega, by omega⟩ ?_
    refine p_icmp_gt (pc := 18) (tgt := 25) C dX0_reaches_18 (by decide) (fun c_18 => ?_) (fun c_18 => ?_)
    · refine p_iconst (pc := 25) C dX0_reaches_25 (by decide) ?_
      refine p_zret (pc := 26) C dX0_reaches_26 (by first | exact Or.inl rfl | exact Or.inr rfl | (split <;> simp)) ?_
      exact ⟨by first | rfl | (rw [if_pos (by omega)]) | (rw [if_neg (by omega)]) | (congr 2; omega), rfl⟩
    · refine p_iconst (pc := 21) C dX0_reaches_21 (by decide) ?_
      refine p_goto (pc := 22) (tgt := 26) C dX0_reaches_22 (by decide) ?_
      refine p_zret (pc := 26) C dX0_reaches_26 (by first | exact Or.inl rfl | exact Or.inr rfl | (split <;> simp)) ?_
      exact ⟨by first | rfl | (rw [if_pos (by omega)]) | (rw [if_neg (by omega)]) | (congr 2; omega), rfl⟩

set_option maxHeartbeats 4000000 in
set_option maxRecDepth 100000 in
theorem k_X0_faultOfTaking {K : KX} {d : Nat} {μ : Int → ME} {l i n : Int} {a c th ln le : Int} (ha : IR a) (h1 : μ a = oR th ln le c) (hl : 0 ≤ le ∧ le ≤ 60) : Ct K (d + 2) yX0_faultOfTaking cX0_faultOfTaking 4 (some .int) [vR a, vI l, vI i, vI n] μ (pF (vI (fot th ln le l i n)) μ) := by
  refine Ct.of (by decide) (Nat.le_of_ble_eq_true rfl) (fun X C => ?_)
  refine p_aload_n (pc := 0) C dX0_faultOfTaking_0 rfl ?_
  refine p_get (pc := 1) C fl_X0_15 dX0_faultOfTaking_1 ha (by assumption) (by rfl) ?_
  refine p_if_eq (pc := 4) (tgt := 17) C dX0_faultOfTaking_4 (by decide) (fun c_4 => ?_) (fun c_4 => ?_)
  · refine p_aload_n (pc := 17) C dX0_faultOfTaking_17 rfl ?_
    refine p_get (pc := 18) C fl_X0_15 dX0_faultOfTaking_18 ha (by assumption) (by rfl) ?_
    refine p_if_ne (pc := 21) (tgt := 26) C dX0_faultOfTaking_21 (by decide) (fun c_21 => ?_) (fun c_21 => ?_)
    · refine p_iload_n (pc := 26) C dX0_faultOfTaking_26 rfl ?_
      refine p_if_ge (pc := 27) (tgt := 32) C dX0_faultOfTaking_27 (by decide) (fun c_27 => ?_) (fun c_27 => ?_)
      · refine p_aload_n (pc := 32) C dX0_faultOfTaking_32 rfl ?_
        refine p_iload_n (pc := 33) C dX0_faultOfTaking_33 rfl ?_
        refine p_iload_n (pc := 34) C dX0_faultOfTaking_34 rfl ?_
        refine p_callVF (pc := 35) C ln_X0_30 dX0_faultOfTaking_35 (k_X0_reaches ha h1 hl) ha (by assumption) rfl rfl rfl rfl (Nat.le_of_ble_eq_true rfl) ?_
        refine p_ifeq_b (pc := 38) (tgt := 45) C dX0_faultOfTaking_38 (by decide) (fun c_38 => ?_) (fun c_38 => ?_)
        · refine p_iconst (pc := 45) C dX0_faultOfTaking_45 (by decide) ?_
          refine p_iret (pc := 46) C dX0_faultOfTaking_46 ?_
          exact ⟨sv (by unfold fot; first | (exfalso; omega) | rw [if_pos (by omega)] | rw [if_neg (by omega), if_pos (by omega)] | rw [if_neg (by omega), if_neg (by omega), if_pos (by omega)] | rw [if_neg (by omega), if_neg (by omega), if_neg (by omega), if_pos (by omega)] | rw [if_neg (by omega), if_neg (by omega), if_neg (by omega), if_neg (by omega)]), rfl⟩
        · refine p_iconst (pc := 41) C dX0_faultOfTaking_41 (by decide) ?_
          refine p_goto (pc := 42) (tgt := 46) C dX0_faultOfTaking_42 (by decide) ?_
          refine p_iret (pc := 46) C dX0_faultOfTaking_46 ?_
          exact ⟨sv (by unfold fot; first | (exfalso; omega) | rw [if_pos (by omega)] | rw [if_neg (by omega), if_pos (by omega)] | rw [if_neg (by omega), if_neg (by omega), if_pos (by omega)] | rw [if_neg (by omega), if_neg (by omega), if_neg (by omega), if_pos (by omega)] | rw [if_neg (by omega), if_neg (by omega), if_neg (by omega), if_neg (by omega)]), rfl⟩
      · refine p_iconst (pc := 30) C dX0_faultOfTaking_30 (by decide) ?_
        refine p_iret (pc := 31) C dX0_faultOfTaking_31 ?_
        exact ⟨sv (by unfold fot; first | (exfalso; omega) | rw [if_pos (by omega)] | rw [if_neg (by omega), if_pos (by omega)] | rw [if_neg (by omega), if_neg (by omega), if_pos (by omega)] | rw [if_neg (by omega), if_neg (by omega), if_neg (by omega), if_pos (by omega)] | rw [if_neg (by omega), if_neg (by omega), if_neg (by omega), if_neg (by omega)]), rfl⟩
    · refine p_iconst (pc := 24) C dX0_faultOfTaking_24 (by decide) ?_
      refine p_iret (pc := 25) C dX0_faultOfTaking_25 ?_
      exact ⟨sv (by unfold fot; first | (exfalso; omega) | rw [if_pos (by omega)] | rw [if_neg (by omega), if_pos (by omega)] | rw [if_neg (by omega), if_neg (by omega), if_pos (by omega)] | rw [if_neg (by omega), if_neg (by omega), if_neg (by omega), if_pos (by omega)] | rw [if_neg (by omega), if_neg (by omega), if_neg (by omega), if_neg (by omega)]), rfl⟩
  · refine p_aload_n (pc := 7) C dX0_faultOfTaking_7 rfl ?_
    refine p_get (pc := 8) C fl_X0_19 dX0_faultOfTaking_8 ha (by assumption) (by rfl) ?_
    refine p_iload_n (pc := 11) C dX0_faultOfTaking_11 rfl ?_
    refine p_icmp_eq (pc := 12) (tgt := 17) C dX0_faultOfTaking_12 (by decide) (fun c_12 => ?_) (fun c_12 => ?_)
    · refine p_aload_n (pc := 17) C dX0_faultOfTaking_17 rfl ?_
      refine p_get (pc := 18) C fl_X0_15 dX0_faultOfTaking_18 ha (by assumption) (by rfl) ?_
      refine p_if_ne (pc := 21) (tgt := 26) C dX0_faultOfTaking_21 (by decide) (fun c_21 => ?_) (fun c_21 => ?_)
      · refine p_iload_n (pc := 26) C dX0_faultOfTaking_26 rfl ?_
        refine p_if_ge (pc := 27) (tgt := 32) C dX0_faultOfTaking_27 (by decide) (fun c_27 => ?_) (fun c_27 => ?_)
        · refine p_aload_n (pc := 32) C dX0_faultOfTaking_32 rfl ?_
          refine p_iload_n (pc := 33) C dX0_faultOfTaking_33 rfl ?_
          refine p_iload_n (pc := 34) C dX0_faultOfTaking_34 rfl ?_
          refine p_callVF (pc := 35) C ln_X0_30 dX0_faultOfTaking_35 (k_X0_reaches ha h1 hl) ha (by assumption) rfl rfl rfl rfl (Nat.le_of_ble_eq_true rfl) ?_
          refine p_ifeq_b (pc := 38) (tgt := 45) C dX0_faultOfTaking_38 (by decide) (fun c_38 => ?_) (fun c_38 => ?_)
          · refine p_iconst (pc := 45) C dX0_faultOfTaking_45 (by decide) ?_
            refine p_iret (pc := 46) C dX0_faultOfTaking_46 ?_
            exact ⟨sv (by unfold fot; first | (exfalso; omega) | rw [if_pos (by omega)] | rw [if_neg (by omega), if_pos (by omega)] | rw [if_neg (by omega), if_neg (by omega), if_pos (by omega)] | rw [if_neg (by omega), if_neg (by omega), if_neg (by omega), if_pos (by omega)] | rw [if_neg (by omega), if_neg (by omega), if_neg (by omega), if_neg (by omega)]), rfl⟩
          · refine p_iconst (pc := 41) C dX0_faultOfTaking_41 (by decide) ?_
            refine p_goto (pc := 42) (tgt := 46) C dX0_faultOfTaking_42 (by decide) ?_
            refine p_iret (pc := 46) C dX0_faultOfTaking_46 ?_
            exact ⟨sv (by unfold fot; first | (exfalso; omega) | rw [if_pos (by omega)] | rw [if_neg (by omega), if_pos (by omega)] | rw [if_neg (by omega), if_neg (by omega), if_pos (by omega)] | rw [if_neg (by omega), if_neg (by omega), if_neg (by omega), if_pos (by omega)] | rw [if_neg (by omega), if_neg (by omega), if_neg (by omega), if_neg (by omega)]), rfl⟩
        · refine p_iconst (pc := 30) C dX0_faultOfTaking_30 (by decide) ?_
          refine p_iret (pc := 31) C dX0_faultOfTaking_31 ?_
          exact ⟨sv (by unfold fot; first | (exfalso; omega) | rw [if_pos (by omega)] | rw [if_neg (by omega), if_pos (by omega)] | rw [if_neg (by omega), if_neg (by omega), if_pos (by omega)] | rw [if_neg (by omega), if_neg (by omega), if_neg (by omega), if_pos (by omega)] | rw [if_neg (by omega), if_neg (by omega), if_neg (by omega), if_neg (by omega)]), rfl⟩
      · refine p_iconst (pc := 24) C dX0_faultOfTaking_24 (by decide) ?_
        refine p_iret (pc := 25) C dX0_faultOfTaking_25 ?_
        exact ⟨sv (by unfold fot; first | (exfalso; omega) | rw [if_pos (by omega)] | rw [if_neg (by omega), if_pos (by omega)] | rw [if_neg (by omega), if_neg (by omega), if_pos (by omega)] | rw [if_neg (by omega), if_neg (by omega), if_neg (by omega), if_pos (by omega)] | rw [if_neg (by omega), if_neg (by omega), if_neg (by omega), if_neg (by omega)]), rfl⟩
    · refine p_iconst (pc := 15) C dX0_faultOfTaking_15 (by decide) ?_
      refine p_iret (pc := 16) C dX0_faultOfTaking_16 ?_
      exact ⟨sv (by unfold fot; first | (exfalso; omega) | rw [if_pos (by omega)] | rw [if_neg (by omega), if_pos (by omega)] | rw [if_neg (by omega), if_neg (by omega), if_pos (by omega)] | rw [if_neg (by omega), if_neg (by omega), if_neg (by omega), if_pos (by omega)] | rw [if_neg (by omega), if_neg (by omega), if_neg (by omega), if_neg (by omega)]), rfl⟩

set_option maxHeartbeats 4000000 in
set_option maxRecDepth 100000 in
theorem k_X0_codeAt {K : KX} {d : Nat} {μ : Int → ME} {i : Int} {a c th ln le : Int} (ha : IR a) (h1 : μ a = oR th ln le c) {f : Int → Int} (hc : IR c) (h2 : μ c = mA 60 f) (hl : 0 ≤ le ∧ le ≤ 60) : Ct K (d + 1) yX0_codeAt cX0_codeAt 2 (some .int) [vR a, vI i] μ (pF (vI (cAt le f i)) μ) := by
  refine Ct.of (by decide) (Nat.le_of_ble_eq_true rfl) (fun X C => ?_)
  refine p_iload_n (pc := 0) C dX0_codeAt_0 rfl ?_
  refine p_aload_n (pc := 1) C dX0_codeAt_1 rfl ?_
  refine p_get (pc := 2) C fl_X0_23 dX0_codeAt_2 (by first | exact ha | exact hc) (by assumption) (by rfl) ?_
  refine p_callNF (pc := 5) C ln_X0_33 dX0_codeAt_5 (k_X4_isBelow) rfl rfl (Nat.le_of_ble_eq_true rfl) ?_
  refine p_ifeq_b (pc := 8) (tgt := 20) C dX0_codeAt_8 (by decide) (fun c_8 => ?_) (fun c_8 => ?_)
  · refine p_bipush (pc := 20) C dX0_codeAt_20 (by decide) ?_
    refine p_iret (pc := 22) C dX0_codeAt_22 ?_
    exact ⟨sv (by unfold cAt; first | rw [if_pos (by omega)] | rw [if_neg (by omega)]), rfl⟩
  · refine p_aload_n (pc := 11) C dX0_codeAt_11 rfl ?_
    refine p_get (pc := 12) C fl_X0_9 dX0_codeAt_12 (by first | exact ha | exact hc) (by assumption) (by rfl) ?_
    refine p_iload_n (pc := 15) C dX0_codeAt_15 rfl ?_
    refine p_iald (pc := 16) C dX0_codeAt_16 (by first | exact ha | exact hc) (by assumption) (by omega) ?_
    refine p_goto (pc := 17) (tgt := 22) C dX0_codeAt_17 (by decide) ?_
    refine p_iret (pc := 22) C dX0_codeAt_22 ?_
    exact ⟨sv (by unfold cAt; first | rw [if_pos (by omega)] | rw [if_neg (by omega)]), rfl⟩


set_option maxHeartbeats 4000000 in
set_option maxRecDepth 100000 in
theorem k_X0_digitAt {K : KX} {d : Nat} {μ : Int → ME} {i : Int} {a c th ln le : Int} (ha : IR a) (h1 : μ a = oR th ln le c) {f : Int → Int} (hc : IR c) (h2 : μ c = mA 60 f) (hl : 0 ≤ le ∧ le ≤ 60) (hd : 0 ≤ cAt le f i ∧ cAt le f i ≤ 1000) : Ct K (d + 2) yX0_digitAt cX0_digitAt 2 (some .int) [vR a, vI i] μ (pF (vI (cAt le f i - 48)) μ) := by
  refine Ct.of (by decide) (Nat.le_of_ble_eq_true rfl) (fun X C => ?_)
  refine p_aload_n (pc := 0) C dX0_digitAt_0 rfl ?_
  refine p_iload_n (pc := 1) C dX0_digitAt_1 rfl ?_
  refine p_callVF (pc := 2) C ln_X0_36 dX0_digitAt_2 (k_X0_codeAt ha h1 hc h2 hl) (by first | exact ha | exact hc) (by assumption) rfl rfl rfl rfl (Nat.le_of_ble_eq_true rfl) ?_
  refine p_bipush (pc := 5) C dX0_digitAt_5 (by decide) ?_
  refine p_isub (pc := 7) C dX0_digitAt_7 ⟨by omega, by omega⟩ ?_
  refine p_iret (pc := 8) C dX0_digitAt_8 ?_
  exact ⟨by first | rfl | (rw [if_pos (by omega)]) | (rw [if_neg (by omega)]) | (congr 2; omega), rfl⟩

set_option maxHeartbeats 4000000 in
set_option maxRecDepth 100000 in
theorem k_X0_standsAt {K : KX} {d : Nat} {μ : Int → ME} {i b : Int} {g : Int → Int} {a c th ln le : Int} (ha : IR a) (h1 : μ a = oR th ln le c) {f : Int → Int} (hc : IR c) (h2 : μ c = mA 60 f) (hl : 0 ≤ le ∧ le ≤ 60) (hi : 0 ≤ i ∧ i ≤ 60) (hb : IR b) (h3 : μ b = mA 4 g) : Ct K (d + 2) yX0_standsAt cX0_standsAt 4 (some .boolean) [vR a, vI i, vR b] μ (pF (vI (if cAt le f (i + 0) = g 0 ∧ cAt le f (i + 1) = g 1 ∧ cAt le f (i + 2) = g 2 ∧ cAt le f (i + 3) = g 3 then 1 else 0)) μ) := by
  refine Ct.of (by decide) (Nat.le_of_ble_eq_true rfl) (fun X C => ?_)
  refine p_iconst (pc := 0) C dX0_standsAt_0 (by decide) ?_
  refine p_istore_n (pc := 1) (ls' := [(3, _), (0, _), (1, _), (2, _)]) C dX0_standsAt_1 (by decide) rfl ?_
  refine p_iload_n (pc := 2) C dX0_standsAt_2 rfl ?_
  refine p_iconst (pc := 3) C dX0_standsAt_3 (by decide) ?_
  refine p_icmp_ge (pc := 4) (tgt := 28) C dX0_standsAt_4 (by decide) (fun h => absurd h (by decide)) (fun c_4 => ?_)
  refine p_aload_n (pc := 7) C dX0_standsAt_7 rfl ?_
  refine p_iload_n (pc := 8) C dX0_standsAt_8 rfl ?_
  refine p_iload_n (pc := 9) C dX0_standsAt_9 rfl ?_
  refine p_iadd (pc := 10) C dX0_standsAt_10 ⟨by omega, by omega⟩ ?_
  refine p_callVF (pc := 11) C ln_X0_36 dX0_standsAt_11 (k_X0_codeAt ha h1 hc h2 hl) (by first | exact ha | exact hc | exact hb) (by assumption) rfl rfl rfl rfl (Nat.le_of_ble_eq_true rfl) ?_
  refine p_aload_n (pc := 14) C dX0_standsAt_14 rfl ?_
  refine p_iload_n (pc := 15) C dX0_standsAt_15 rfl ?_
  refine p_iald (pc := 16) C dX0_standsAt_16 (by first | exact ha | exact hc | exact hb) (by assumption) (by omega) ?_
  refine p_icmp_eq (pc := 17) (tgt := 22) C dX0_standsAt_17 (by decide) (fun c_17 => ?_) (fun c_17 => ?_)
  · refine p_iincC (pc := 22) (w := 1) (ls' := [(3, _), (0, _), (1, _), (2, _)]) C dX0_standsAt_22 (by decide) rfl (by decide) (by decide) rfl ?_
    refine p_goto (pc := 25) (tgt := 2) C dX0_standsAt_25 (by decide) ?_
    refine p_iload_n (pc := 2) C dX0_standsAt_2 rfl ?_
    refine p_iconst (pc := 3) C dX0_standsAt_3 (by decide) ?_
    refine p_icmp_ge (pc := 4) (tgt := 28) C dX0_standsAt_4 (by decide) (fun h => absurd h (by decide)) (fun c_4 => ?_)
    refine p_aload_n (pc := 7) C dX0_standsAt_7 rfl ?_
    refine p_iload_n (pc := 8) C dX0_standsAt_8 rfl ?_
    refine p_iload_n (pc := 9) C dX0_standsAt_9 rfl ?_
    refine p_iadd (pc := 10) C dX0_standsAt_10 ⟨by omega, by omega⟩ ?_
    refine p_callVF (pc := 11) C ln_X0_36 dX0_standsAt_11 (k_X0_codeAt ha h1 hc h2 hl) (by first | exact ha | exact hc | exact hb) (by assumption) rfl rfl rfl rfl (Nat.le_of_ble_eq_true rfl) ?_
    refine p_aload_n (pc := 14) C dX0_standsAt_14 rfl ?_
    refine p_iload_n (pc := 15) C dX0_standsAt_15 rfl ?_
    refine p_iald (pc := 16) C dX0_standsAt_16 (by first | exact ha | exact hc | exact hb) (by assumption) (by omega) ?_
    refine p_icmp_eq (pc := 17) (tgt := 22) C dX0_standsAt_17 (by decide) (fun c_17 => ?_) (fun c_17 => ?_)
    · refine p_iincC (pc := 22) (w := 2) (ls' := [(3, _), (0, _), (1, _), (2, _)]) C dX0_standsAt_22 (by decide) rfl (by decide) (by decide) rfl ?_
      refine p_goto (pc := 25) (tgt := 2) C dX0_standsAt_25 (by decide) ?_
      refine p_iload_n (pc := 2) C dX0_standsAt_2 rfl ?_
      refine p_iconst (pc := 3) C dX0_standsAt_3 (by decide) ?_
      refine p_icmp_ge (pc := 4) (tgt := 28) C dX0_standsAt_4 (by decide) (fun h => absurd h (by decide)) (fun c_4 => ?_)
      refine p_aload_n (pc := 7) C dX0_standsAt_7 rfl ?_
      refine p_iload_n (pc := 8) C dX0_standsAt_8 rfl ?_
      refine p_iload_n (pc := 9) C dX0_standsAt_9 rfl ?_
      refine p_iadd (pc := 10) C dX0_standsAt_10 ⟨by omega, by omega⟩ ?_
      refine p_callVF (pc := 11) C ln_X0_36 dX0_standsAt_11 (k_X0_codeAt ha h1 hc h2 hl) (by first | exact ha | exact hc | exact hb) (by assumption) rfl rfl rfl rfl (Nat.le_of_ble_eq_true rfl) ?_
      refine p_aload_n (pc := 14) C dX0_standsAt_14 rfl ?_
      refine p_iload_n (pc := 15) C dX0_standsAt_15 rfl ?_
      refine p_iald (pc := 16) C dX0_standsAt_16 (by first | exact ha | exact hc | exact hb) (by assumption) (by omega) ?_
      refine p_icmp_eq (pc := 17) (tgt := 22) C dX0_standsAt_17 (by decide) (fun c_17 => ?_) (fun c_17 => ?_)
      · refine p_iincC (pc := 22) (w := 3) (ls' := [(3, _), (0, _), (1, _), (2, _)]) C dX0_standsAt_22 (by decide) rfl (by decide) (by decide) rfl ?_
        refine p_goto (pc := 25) (tgt := 2) C dX0_standsAt_25 (by decide) ?_
        refine p_iload_n (pc := 2) C dX0_standsAt_2 rfl ?_
        refine p_iconst (pc := 3) C dX0_standsAt_3 (by decide) ?_
        refine p_icmp_ge (pc := 4) (tgt := 28) C dX0_standsAt_4 (by decide) (fun h => absurd h (by decide)) (fun c_4 => ?_)
        refine p_aload_n (pc := 7) C dX0_standsAt_7 rfl ?_
        refine p_iload_n (pc := 8) C dX0_standsAt_8 rfl ?_
        refine p_iload_n (pc := 9) C dX0_standsAt_9 rfl ?_
        refine p_iadd (pc := 10) C dX0_standsAt_10 ⟨by omega, by omega⟩ ?_
        refine p_callVF (pc := 11) C ln_X0_36 dX0_standsAt_11 (k_X0_codeAt ha h1 hc h2 hl) (by first | exact ha | exact hc | exact hb) (by assumption) rfl rfl rfl rfl (Nat.le_of_ble_eq_true rfl) ?_
        refine p_aload_n (pc := 14) C dX0_standsAt_14 rfl ?_
        refine p_iload_n (pc := 15) C dX0_standsAt_15 rfl ?_
        refine p_iald (pc := 16) C dX0_standsAt_16 (by first | exact ha | exact hc | exact hb) (by assumption) (by omega) ?_
        refine p_icmp_eq (pc := 17) (tgt := 22) C dX0_standsAt_17 (by decide) (fun c_17 => ?_) (fun c_17 => ?_)
        · refine p_iincC (pc := 22) (w := 4) (ls' := [(3, _), (0, _), (1, _), (2, _)]) C dX0_standsAt_22 (by decide) rfl (by decide) (by decide) rfl ?_
          refine p_goto (pc := 25) (tgt := 2) C dX0_standsAt_25 (by decide) ?_
          refine p_iload_n (pc := 2) C dX0_standsAt_2 rfl ?_
          refine p_iconst (pc := 3) C dX0_standsAt_3 (by decide) ?_
          refine p_icmp_ge (pc := 4) (tgt := 28) C dX0_standsAt_4 (by decide) (fun c_4 => ?_) (fun h => absurd h (by decide))
          refine p_iconst (pc := 28) C dX0_standsAt_28 (by decide) ?_
          refine p_zret (pc := 29) C dX0_standsAt_29 (by first | exact Or.inl rfl | exact Or.inr rfl | (split <;> simp)) ?_
          exact ⟨by first | rfl | (rw [if_pos (by omega)]) | (rw [if_neg (by omega)]) | (congr 2; omega), rfl⟩
        · refine p_iconst (pc := 20) C dX0_standsAt_20 (by decide) ?_
          refine p_zret (pc := 21) C dX0_standsAt_21 (by first | exact Or.inl rfl | exact Or.inr rfl | (split <;> simp)) ?_
          exact ⟨by first | rfl | (rw [if_pos (by omega)]) | (rw [if_neg (by omega)]) | (congr 2; omega), rfl⟩
      · refine p_iconst (pc := 20) C dX0_standsAt_20 (by decide) ?_
        refine p_zret (pc := 21) C dX0_standsAt_21 (by first | exact Or.inl rfl | exact Or.inr rfl | (split <;> simp)) ?_
        exact ⟨by first | rfl | (rw [if_pos (by omega)]) | (rw [if_neg (by omega)]) | (congr 2; omega), rfl⟩
    · refine p_iconst (pc := 20) C dX0_standsAt_20 (by decide) ?_
      refine p_zret (pc := 21) C dX0_standsAt_21 (by first | exact Or.inl rfl | exact Or.inr rfl | (split <;> simp)) ?_
      exact ⟨by first | rfl | (rw [if_pos (by omega)]) | (rw [if_neg (by omega)]) | (congr 2; omega), rfl⟩
  · refine p_iconst (pc := 20) C dX0_standsAt_20 (by decide) ?_
    refine p_zret (pc := 21) C dX0_standsAt_21 (by first | exact Or.inl rfl | exact Or.inr rfl | (split <;> simp)) ?_
    exact ⟨by first | rfl | (rw [if_pos (by omega)]) | (rw [if_neg (by omega)]) | (congr 2; omega), rfl⟩

theorem fz_0 (f : Int → Int) : fz f 0 = f := by funext j; unfold fz; rw [if_neg (by omega)]
theorem fz_s (f : Int → Int) (i : Int) (h : 0 ≤ i) : fup (fz f i) i 0 = fz f (i + 1) := by
  funext j; unfold fup fz
  by_cases e : j = i
  · rw [if_pos e, if_pos (by omega)]
  · rw [if_neg e]
    by_cases e2 : 0 ≤ j ∧ j < i
    · rw [if_pos e2, if_pos (by omega)]
    · rw [if_neg e2, if_neg (by omega)]
set_option maxHeartbeats 4000000 in
set_option maxRecDepth 100000 in
theorem k_X0_begin {K : KX} {d : Nat} {μ : Int → ME} {l n : Int} {a c th ln le : Int} (ha : IR a) (h1 : μ a = oR th ln le c) {f : Int → Int} (hc : IR c) (h2 : μ c = mA 60 f) (hac : a ≠ c) (hn : 0 ≤ n ∧ n ≤ 60) : Ct K (d + 1) yX0_begin cX0_begin 4 none [vR a, vI l, vI n] μ (pU (mup (mup μ a (oR 1 l n c)) c (mA 60 (fz f n)))) := by
  refine Ct.of (by decide) (Nat.le_of_ble_eq_true rfl) (fun X C => ?_)
  have L : ∀ (t : Nat) (i : Int), 0 ≤ i → i ≤ n → n - i = (t : Int) → PW K X 4 (QM K X (pU (mup (mup μ a (oR 1 l n c)) c (mA 60 (fz f n))))) 17 [(3, vI i), (0, vR a), (1, vI l), (2, vI n)] [] (mup (mup μ a (oR 1 l n c)) c (mA 60 (fz f i))) := by
    intro t
    induction t with
    | zero =>
      intro i hi0 hi1 hi2
      have hin : i = n := by omega
      subst hin
      refine p_iload_n (pc := 17) C dX0_begin_17 rfl ?_
      refine p_iload_n (pc := 18) C dX0_begin_18 rfl ?_
      refine p_icmp_ge (pc := 19) (tgt := 41) C dX0_begin_19 (by decide) (fun c_19 => ?_) (fun h => by exfalso; omega)
      refine p_vret (pc := 41) C dX0_begin_41 ?_
      exact ⟨rfl, rfl⟩
    | succ t ih =>
      intro i hi0 hi1 hi2
      refine p_iload_n (pc := 17) C dX0_begin_17 rfl ?_
      refine p_iload_n (pc := 18) C dX0_begin_18 rfl ?_
      refine p_icmp_ge (pc := 19) (tgt := 41) C dX0_begin_19 (by decide) (fun h => by exfalso; omega) (fun c_19 => ?_)
      refine p_iload_n (pc := 22) C dX0_begin_22 rfl ?_
      refine p_bipush (pc := 23) C dX0_begin_23 (by decide) ?_
      refine p_icmp_ge (pc := 25) (tgt := 41) C dX0_begin_25 (by decide) (fun h => by exfalso; omega) (fun c_25 => ?_)
      refine p_aload_n (pc := 28) C dX0_begin_28 rfl ?_
      refine p_get (pc := 29) C fl_X0_9 dX0_begin_29 (by first | exact ha | exact hc) (by (repeat refine mg_n (by omega) ?_); first | assumption | exact mup_s _ _ _) (by rfl) ?_
      refine p_iload_n (pc := 32) C dX0_begin_32 rfl ?_
      refine p_iconst (pc := 33) C dX0_begin_33 (by decide) ?_
      refine p_iast (pc := 34) C dX0_begin_34 (by first | exact ha | exact hc) (by (repeat refine mg_n (by omega) ?_); first | assumption | exact mup_s _ _ _) (by omega) ?_
      try refine p_mem (mup_mup _ _ _ _) ?_
      refine p_iinc (pc := 35) (ls' := [(3, _), (0, _), (1, _), (2, _)]) C dX0_begin_35 (by decide) rfl ⟨by omega, by omega⟩ rfl ?_
      refine p_goto (pc := 38) (tgt := 17) C dX0_begin_38 (by decide) ?_
      refine p_mem (by rw [fz_s]; exact hi0) (ih (i + 1) (by omega) (by omega) (by omega))
  refine p_aload_n (pc := 0) C dX0_begin_0 rfl ?_
  refine p_iconst (pc := 1) C dX0_begin_1 (by decide) ?_
  refine p_putLZ (pc := 2) (fs' := [_, _, _, _]) C fp_X0_15 dX0_begin_2 (by first | exact ha | exact hc) (by (repeat refine mg_n (by omega) ?_); first | assumption | exact mup_s _ _ _) (by exact Nat.le_of_ble_eq_true rfl) (by decide) (by rfl) ?_
  try refine p_mem (mup_mup _ _ _ _) ?_
  refine p_aload_n (pc := 5) C dX0_begin_5 rfl ?_
  refine p_iload_n (pc := 6) C dX0_begin_6 rfl ?_
  refine p_putL (pc := 7) (fs' := [_, _, _, _]) C fp_X0_19 dX0_begin_7 (by first | exact ha | exact hc) (by (repeat refine mg_n (by omega) ?_); first | assumption | exact mup_s _ _ _) (by exact Nat.le_of_ble_eq_true rfl) (by rfl) ?_
  try refine p_mem (mup_mup _ _ _ _) ?_
  refine p_aload_n (pc := 10) C dX0_begin_10 rfl ?_
  refine p_iload_n (pc := 11) C dX0_begin_11 rfl ?_
  refine p_putL (pc := 12) (fs' := [_, _, _, _]) C fp_X0_23 dX0_begin_12 (by first | exact ha | exact hc) (by (repeat refine mg_n (by omega) ?_); first | assumption | exact mup_s _ _ _) (by exact Nat.le_of_ble_eq_true rfl) (by rfl) ?_
  try refine p_mem (mup_mup _ _ _ _) ?_
  refine p_iconst (pc := 15) C dX0_begin_15 (by decide) ?_
  refine p_istore_n (pc := 16) (ls' := [(3, _), (0, _), (1, _), (2, _)]) C dX0_begin_16 (by decide) rfl ?_
  refine p_mem ?_ (L n.toNat 0 (by omega) (by omega) (by omega))
  rw [fz_0, mup_id (μ := mup μ a _) (a := c) (by rw [mup_n _ _ _ (Ne.symm hac)]; exact h2)]

set_option maxHeartbeats 4000000 in
set_option maxRecDepth 100000 in
theorem k_X3_begin {K : KX} {d : Nat} {μ : Int → ME} {a p w s : Int} (ha : IR a) (h1 : μ a = oT p w s) : Ct K (d) yX3_begin cX3_begin 1 none [vR a] μ (pU (mup μ a (oT 0 0 (-9)))) := by
  refine Ct.of (by decide) (Nat.le_of_ble_eq_true rfl) (fun X C => ?_)
  refine p_aload_n (pc := 0) C dX3_begin_0 rfl ?_
  refine p_iconst (pc := 1) C dX3_begin_1 (by decide) ?_
  refine p_putL (pc := 2) (fs' := [_, _, _]) C fp_X3_9 dX3_begin_2 ha (by (repeat refine mg_n (by omega) ?_); first | assumption | exact mup_s _ _ _) (by exact Nat.le_of_ble_eq_true rfl) (by rfl) ?_
  try refine p_mem (mup_mup _ _ _ _) ?_
  refine p_aload_n (pc := 5) C dX3_begin_5 rfl ?_
  refine p_iconst (pc := 6) C dX3_begin_6 (by decide) ?_
  refine p_putL (pc := 7) (fs' := [_, _, _]) C fp_X3_15 dX3_begin_7 ha (by (repeat refine mg_n (by omega) ?_); first | assumption | exact mup_s _ _ _) (by exact Nat.le_of_ble_eq_true rfl) (by rfl) ?_
  try refine p_mem (mup_mup _ _ _ _) ?_
  refine p_aload_n (pc := 10) C dX3_begin_10 rfl ?_
  refine p_bipush (pc := 11) C dX3_begin_11 (by decide) ?_
  refine p_putL (pc := 13) (fs' := [_, _, _]) C fp_X3_18 dX3_begin_13 ha (by (repeat refine mg_n (by omega) ?_); first | assumption | exact mup_s _ _ _) (by exact Nat.le_of_ble_eq_true rfl) (by rfl) ?_
  try refine p_mem (mup_mup _ _ _ _) ?_
  refine p_vret (pc := 16) C dX3_begin_16 ?_
  exact ⟨rfl, rfl⟩

set_option maxHeartbeats 4000000 in
set_option maxRecDepth 100000 in
theorem k_X3_count {K : KX} {d : Nat} {μ : Int → ME} {sh g nmd : Int} {a p w s : Int} (ha : IR a) (h1 : μ a = oT p w s) (hp : 0 ≤ p ∧ p ≤ 1000000) (hw : 0 ≤ w ∧ w ≤ 1000000) (hg : 0 ≤ g ∧ g ≤ 100) : Ct K (d + 1) yX3_count cX3_count 4 none [vR a, vI sh, vI g, vI nmd] μ (pU (mup μ a (oT (p + 1) (w + (g + 1)) (if nmd ≠ 0 ∧ s = -9 then sh else s)))) := by
  refine Ct.of (by decide) (Nat.le_of_ble_eq_true rfl) (fun X C => ?_)
  refine p_aload_n (pc := 0) C dX3_count_0 rfl ?_
  refine p_dup (pc := 1) C dX3_count_1 rfl ?_
  refine p_get (pc := 2) C fl_X3_9 dX3_count_2 ha (by (repeat refine mg_n (by omega) ?_); first | assumption | exact mup_s _ _ _) (by rfl) ?_
  refine p_iconst (pc := 5) C dX3_count_5 (by decide) ?_
  refine p_iadd (pc := 6) C dX3_count_6 ⟨by omega, by omega⟩ ?_
  refine p_putL (pc := 7) (fs' := [_, _, _]) C fp_X3_9 dX3_count_7 ha (by (repeat refine mg_n (by omega) ?_); first | assumption | exact mup_s _ _ _) (by exact Nat.le_of_ble_eq_true rfl) (by rfl) ?_
  try refine p_mem (mup_mup _ _ _ _) ?_
  refine p_aload_n (pc := 10) C dX3_count_10 rfl ?_
  refine p_dup (pc := 11) C dX3_count_11 rfl ?_
  refine p_get (pc := 12) C fl_X3_15 dX3_count_12 ha (by (repeat refine mg_n (by omega) ?_); first | assumption | exact mup_s _ _ _) (by rfl) ?_
  refine p_iload_n (pc := 15) C dX3_count_15 rfl ?_
  refine p_callNF (pc := 16) C ln_X3_21 dX3_count_16 (k_X4_worthOf (by omega)) rfl rfl (Nat.le_of_ble_eq_true rfl) ?_
  refine p_iadd (pc := 19) C dX3_count_19 ⟨by omega, by omega⟩ ?_
  refine p_putL (pc := 20) (fs' := [_, _, _]) C fp_X3_15 dX3_count_20 ha (by (repeat refine mg_n (by omega) ?_); first | assumption | exact mup_s _ _ _) (by exact Nat.le_of_ble_eq_true rfl) (by rfl) ?_
  try refine p_mem (mup_mup _ _ _ _) ?_
  refine p_iload_n (pc := 23) C dX3_count_23 rfl ?_
  refine p_if_eq (pc := 24) (tgt := 41) C dX3_count_24 (by decide) (fun c_24 => ?_) (fun c_24 => ?_)
  · refine p_vret (pc := 41) C dX3_count_41 ?_
    exact ⟨rfl, by first | rw [if_pos (by omega)] | rw [if_neg (by omega)]⟩
  · refine p_aload_n (pc := 27) C dX3_count_27 rfl ?_
    refine p_get (pc := 28) C fl_X3_18 dX3_count_28 ha (by (repeat refine mg_n (by omega) ?_); first | assumption | exact mup_s _ _ _) (by rfl) ?_
    refine p_bipush (pc := 31) C dX3_count_31 (by decide) ?_
    refine p_icmp_ne (pc := 33) (tgt := 41) C dX3_count_33 (by decide) (fun c_33 => ?_) (fun c_33 => ?_)
    · refine p_vret (pc := 41) C dX3_count_41 ?_
      exact ⟨rfl, by first | rw [if_pos (by omega)] | rw [if_neg (by omega)]⟩
    · refine p_aload_n (pc := 36) C dX3_count_36 rfl ?_
      refine p_iload_n (pc := 37) C dX3_count_37 rfl ?_
      refine p_putL (pc := 38) (fs' := [_, _, _]) C fp_X3_18 dX3_count_38 ha (by (repeat refine mg_n (by omega) ?_); first | assumption | exact mup_s _ _ _) (by exact Nat.le_of_ble_eq_true rfl) (by rfl) ?_
      try refine p_mem (mup_mup _ _ _ _) ?_
      refine p_vret (pc := 41) C dX3_count_41 ?_
      exact ⟨rfl, by first | rw [if_pos (by omega)] | rw [if_neg (by omega)]⟩

/-- the good of an act, and what is there behind it -/
def actG (act : Int) : Int := if act < 4 then act else act - 4
def actV (f : Int → Int) (act : Int) : Int := f (actG act) + (if act < 4 then 1 else -1)

set_option maxHeartbeats 4000000 in
set_option maxRecDepth 100000 in
theorem k_X1_doAct {K : KX} {d : Nat} {μ : Int → ME} {act : Int} {a c kd nm sg pt : Int} (ha : IR a) (h1 : μ a = oS kd nm sg pt c) {f : Int → Int} (hc : IR c) (h2 : μ c = mA 4 f) (hac : a ≠ c) (hb : bd4 f 9) (h : 0 ≤ act ∧ act ≤ 7) : Ct K (d + 2) yX1_doAct cX1_doAct 4 (some .boolean) [vR a, vI act] μ (pF (vI (if 0 ≤ actV f act ∧ actV f act ≤ 9 then 1 else 0)) (if 0 ≤ actV f act ∧ actV f act ≤ 9 then mup μ c (mA 4 (fup f (actG act) (actV f act))) else μ)) := by
  refine Ct.of (by decide) (Nat.le_of_ble_eq_true rfl) (fun X C => ?_)
  by_cases e : act < 4
  · have eG : actG act = act := by unfold actG; rw [if_pos e]
    have eV : actV f act = f act + 1 := by unfold actV; rw [eG, if_pos e]
    rw [eV, eG]
    have bb := hb.at (g := act) (by omega) (by omega)
    refine p_iload_n (pc := 0) C dX1_doAct_0 rfl ?_
    refine p_iconst (pc := 1) C dX1_doAct_1 (by decide) ?_
    refine p_icmp_ge (pc := 2) (tgt := 9) C dX1_doAct_2 (by decide) (fun h => by exfalso; omega) (fun c_2 => ?_)
    refine p_iload_n (pc := 5) C dX1_doAct_5 rfl ?_
    refine p_goto (pc := 6) (tgt := 12) C dX1_doAct_6 (by decide) ?_
    refine p_istore_n (pc := 12) (ls' := [(2, _), (0, _), (1, _)]) C dX1_doAct_12 (by decide) rfl ?_
    refine p_iload_n (pc := 13) C dX1_doAct_13 rfl ?_
    refine p_callNF (pc := 14) C ln_X1_37 dX1_doAct_14 (k_X4_isGood) rfl rfl (Nat.le_of_ble_eq_true rfl) ?_
    refine p_ifeq_b (pc := 17) (tgt := 40) C dX1_doAct_17 (by decide) (fun c_17 => ?_) (fun c_17 => ?_)
    · refine p_bipush (pc := 40) C dX1_doAct_40 (by decide) ?_
      refine p_istore_n (pc := 42) (ls' := [(3, _), (2, _), (0, _), (1, _)]) C dX1_doAct_42 (by decide) rfl ?_
      refine p_iload_n (pc := 43) C dX1_doAct_43 rfl ?_
      refine p_bipush (pc := 44) C dX1_doAct_44 (by decide) ?_
      refine p_callNF (pc := 46) C ln_X1_41 dX1_doAct_46 (k_X4_isUpTo) rfl rfl (Nat.le_of_ble_eq_true rfl) ?_
      refine p_ifne_b (pc := 49) (tgt := 54) C dX1_doAct_49 (by decide) (fun c_49 => ?_) (fun c_49 => ?_)
      · refine p_aload_n (pc := 54) C dX1_doAct_54 rfl ?_
        refine p_get (pc := 55) C fl_X1_9 dX1_doAct_55 (by first | exact ha | exact hc) (by (repeat refine mg_n (by omega) ?_); first | assumption | exact mup_s _ _ _) (by rfl) ?_
        refine p_iload_n (pc := 58) C dX1_doAct_58 rfl ?_
        refine p_iload_n (pc := 59) C dX1_doAct_59 rfl ?_
        refine p_iast (pc := 60) C dX1_doAct_60 (by first | exact ha | exact hc) (by (repeat refine mg_n (by omega) ?_); first | assumption | exact mup_s _ _ _) (by omega) ?_
        try refine p_mem (mup_mup _ _ _ _) ?_
        refine p_iconst (pc := 61) C dX1_doAct_61 (by decide) ?_
        refine p_zret (pc := 62) C dX1_doAct_62 (by first | exact Or.inl rfl | exact Or.inr rfl | (split <;> simp)) ?_
        first | (exfalso; omega) | exact ⟨by rw [if_pos (by omega)], by rw [if_pos (by omega)]⟩ | exact ⟨by rw [if_neg (by omega)], by rw [if_neg (by omega)]⟩
      · refine p_iconst (pc := 52) C dX1_doAct_52 (by decide) ?_
        refine p_zret (pc := 53) C dX1_doAct_53 (by first | exact Or.inl rfl | exact Or.inr rfl | (split <;> simp)) ?_
        first | (exfalso; omega) | exact ⟨by rw [if_pos (by omega)], by rw [if_pos (by omega)]⟩ | exact ⟨by rw [if_neg (by omega)], by rw [if_neg (by omega)]⟩
    · refine p_aload_n (pc := 20) C dX1_doAct_20 rfl ?_
      refine p_get (pc := 21) C fl_X1_9 dX1_doAct_21 (by first | exact ha | exact hc) (by (repeat refine mg_n (by omega) ?_); first | assumption | exact mup_s _ _ _) (by rfl) ?_
      refine p_iload_n (pc := 24) C dX1_doAct_24 rfl ?_
      refine p_iald (pc := 25) C dX1_doAct_25 (by first | exact ha | exact hc) (by (repeat refine mg_n (by omega) ?_); first | assumption | exact mup_s _ _ _) (by omega) ?_
      refine p_iload_n (pc := 26) C dX1_doAct_26 rfl ?_
      refine p_iconst (pc := 27) C dX1_doAct_27 (by decide) ?_
      refine p_icmp_ge (pc := 28) (tgt := 35) C dX1_doAct_28 (by decide) (fun h => by exfalso; omega) (fun c_28 => ?_)
      refine p_iconst (pc := 31) C dX1_doAct_31 (by decide) ?_
      refine p_goto (pc := 32) (tgt := 36) C dX1_doAct_32 (by decide) ?_
      refine p_iadd (pc := 36) C dX1_doAct_36 ⟨by omega, by omega⟩ ?_
      refine p_goto (pc := 37) (tgt := 42) C dX1_doAct_37 (by decide) ?_
      refine p_istore_n (pc := 42) (ls' := [(3, _), (2, _), (0, _), (1, _)]) C dX1_doAct_42 (by decide) rfl ?_
      refine p_iload_n (pc := 43) C dX1_doAct_43 rfl ?_
      refine p_bipush (pc := 44) C dX1_doAct_44 (by decide) ?_
      refine p_callNF (pc := 46) C ln_X1_41 dX1_doAct_46 (k_X4_isUpTo) rfl rfl (Nat.le_of_ble_eq_true rfl) ?_
      refine p_ifne_b (pc := 49) (tgt := 54) C dX1_doAct_49 (by decide) (fun c_49 => ?_) (fun c_49 => ?_)
      · refine p_aload_n (pc := 54) C dX1_doAct_54 rfl ?_
        refine p_get (pc := 55) C fl_X1_9 dX1_doAct_55 (by first | exact ha | exact hc) (by (repeat refine mg_n (by omega) ?_); first | assumption | exact mup_s _ _ _) (by rfl) ?_
        refine p_iload_n (pc := 58) C dX1_doAct_58 rfl ?_
        refine p_iload_n (pc := 59) C dX1_doAct_59 rfl ?_
        refine p_iast (pc := 60) C dX1_doAct_60 (by first | exact ha | exact hc) (by (repeat refine mg_n (by omega) ?_); first | assumption | exact mup_s _ _ _) (by omega) ?_
        try refine p_mem (mup_mup _ _ _ _) ?_
        refine p_iconst (pc := 61) C dX1_doAct_61 (by decide) ?_
        refine p_zret (pc := 62) C dX1_doAct_62 (by first | exact Or.inl rfl | exact Or.inr rfl | (split <;> simp)) ?_
        first | (exfalso; omega) | exact ⟨by rw [if_pos (by omega)], by rw [if_pos (by omega)]⟩ | exact ⟨by rw [if_neg (by omega)], by rw [if_neg (by omega)]⟩
      · refine p_iconst (pc := 52) C dX1_doAct_52 (by decide) ?_
        refine p_zret (pc := 53) C dX1_doAct_53 (by first | exact Or.inl rfl | exact Or.inr rfl | (split <;> simp)) ?_
        first | (exfalso; omega) | exact ⟨by rw [if_pos (by omega)], by rw [if_pos (by omega)]⟩ | exact ⟨by rw [if_neg (by omega)], by rw [if_neg (by omega)]⟩
  · have eG : actG act = act - 4 := by unfold actG; rw [if_neg e]
    have eV : actV f act = f (act - 4) + -1 := by unfold actV; rw [eG, if_neg e]
    rw [eV, eG]
    have bb := hb.at (g := act - 4) (by omega) (by omega)
    refine p_iload_n (pc := 0) C dX1_doAct_0 rfl ?_
    refine p_iconst (pc := 1) C dX1_doAct_1 (by decide) ?_
    refine p_icmp_ge (pc := 2) (tgt := 9) C dX1_doAct_2 (by decide) (fun c_2 => ?_) (fun h => by exfalso; omega)
    refine p_iload_n (pc := 9) C dX1_doAct_9 rfl ?_
    refine p_iconst (pc := 10) C dX1_doAct_10 (by decide) ?_
    refine p_isub (pc := 11) C dX1_doAct_11 ⟨by omega, by omega⟩ ?_
    refine p_istore_n (pc := 12) (ls' := [(2, _), (0, _), (1, _)]) C dX1_doAct_12 (by decide) rfl ?_
    refine p_iload_n (pc := 13) C dX1_doAct_13 rfl ?_
    refine p_callNF (pc := 14) C ln_X1_37 dX1_doAct_14 (k_X4_isGood) rfl rfl (Nat.le_of_ble_eq_true rfl) ?_
    refine p_ifeq_b (pc := 17) (tgt := 40) C dX1_doAct_17 (by decide) (fun c_17 => ?_) (fun c_17 => ?_)
    · refine p_bipush (pc := 40) C dX1_doAct_40 (by decide) ?_
      refine p_istore_n (pc := 42) (ls' := [(3, _), (2, _), (0, _), (1, _)]) C dX1_doAct_42 (by decide) rfl ?_
      refine p_iload_n (pc := 43) C dX1_doAct_43 rfl ?_
      refine p_bipush (pc := 44) C dX1_doAct_44 (by decide) ?_
      refine p_callNF (pc := 46) C ln_X1_41 dX1_doAct_46 (k_X4_isUpTo) rfl rfl (Nat.le_of_ble_eq_true rfl) ?_
      refine p_ifne_b (pc := 49) (tgt := 54) C dX1_doAct_49 (by decide) (fun c_49 => ?_) (fun c_49 => ?_)
      · refine p_aload_n (pc := 54) C dX1_doAct_54 rfl ?_
        refine p_get (pc := 55) C fl_X1_9 dX1_doAct_55 (by first | exact ha | exact hc) (by (repeat refine mg_n (by omega) ?_); first | assumption | exact mup_s _ _ _) (by rfl) ?_
        refine p_iload_n (pc := 58) C dX1_doAct_58 rfl ?_
        refine p_iload_n (pc := 59) C dX1_doAct_59 rfl ?_
        refine p_iast (pc := 60) C dX1_doAct_60 (by first | exact ha | exact hc) (by (repeat refine mg_n (by omega) ?_); first | assumption | exact mup_s _ _ _) (by omega) ?_
        try refine p_mem (mup_mup _ _ _ _) ?_
        refine p_iconst (pc := 61) C dX1_doAct_61 (by decide) ?_
        refine p_zret (pc := 62) C dX1_doAct_62 (by first | exact Or.inl rfl | exact Or.inr rfl | (split <;> simp)) ?_
        first | (exfalso; omega) | exact ⟨by rw [if_pos (by omega)], by rw [if_pos (by omega)]⟩ | exact ⟨by rw [if_neg (by omega)], by rw [if_neg (by omega)]⟩
      · refine p_iconst (pc := 52) C dX1_doAct_52 (by decide) ?_
        refine p_zret (pc := 53) C dX1_doAct_53 (by first | exact Or.inl rfl | exact Or.inr rfl | (split <;> simp)) ?_
        first | (exfalso; omega) | exact ⟨by rw [if_pos (by omega)], by rw [if_pos (by omega)]⟩ | exact ⟨by rw [if_neg (by omega)], by rw [if_neg (by omega)]⟩
    · refine p_aload_n (pc := 20) C dX1_doAct_20 rfl ?_
      refine p_get (pc := 21) C fl_X1_9 dX1_doAct_21 (by first | exact ha | exact hc) (by (repeat refine mg_n (by omega) ?_); first | assumption | exact mup_s _ _ _) (by rfl) ?_
      refine p_iload_n (pc := 24) C dX1_doAct_24 rfl ?_
      refine p_iald (pc := 25) C dX1_doAct_25 (by first | exact ha | exact hc) (by (repeat refine mg_n (by omega) ?_); first | assumption | exact mup_s _ _ _) (by omega) ?_
      refine p_iload_n (pc := 26) C dX1_doAct_26 rfl ?_
      refine p_iconst (pc := 27) C dX1_doAct_27 (by decide) ?_
      refine p_icmp_ge (pc := 28) (tgt := 35) C dX1_doAct_28 (by decide) (fun c_28 => ?_) (fun h => by exfalso; omega)
      refine p_iconst (pc := 35) C dX1_doAct_35 (by decide) ?_
      refine p_iadd (pc := 36) C dX1_doAct_36 ⟨by omega, by omega⟩ ?_
      refine p_goto (pc := 37) (tgt := 42) C dX1_doAct_37 (by decide) ?_
      refine p_istore_n (pc := 42) (ls' := [(3, _), (2, _), (0, _), (1, _)]) C dX1_doAct_42 (by decide) rfl ?_
      refine p_iload_n (pc := 43) C dX1_doAct_43 rfl ?_
      refine p_bipush (pc := 44) C dX1_doAct_44 (by decide) ?_
      refine p_callNF (pc := 46) C ln_X1_41 dX1_doAct_46 (k_X4_isUpTo) rfl rfl (Nat.le_of_ble_eq_true rfl) ?_
      refine p_ifne_b (pc := 49) (tgt := 54) C dX1_doAct_49 (by decide) (fun c_49 => ?_) (fun c_49 => ?_)
      · refine p_aload_n (pc := 54) C dX1_doAct_54 rfl ?_
        refine p_get (pc := 55) C fl_X1_9 dX1_doAct_55 (by first | exact ha | exact hc) (by (repeat refine mg_n (by omega) ?_); first | assumption | exact mup_s _ _ _) (by rfl) ?_
        refine p_iload_n (pc := 58) C dX1_doAct_58 rfl ?_
        refine p_iload_n (pc := 59) C dX1_doAct_59 rfl ?_
        refine p_iast (pc := 60) C dX1_doAct_60 (by first | exact ha | exact hc) (by (repeat refine mg_n (by omega) ?_); first | assumption | exact mup_s _ _ _) (by omega) ?_
        try refine p_mem (mup_mup _ _ _ _) ?_
        refine p_iconst (pc := 61) C dX1_doAct_61 (by decide) ?_
        refine p_zret (pc := 62) C dX1_doAct_62 (by first | exact Or.inl rfl | exact Or.inr rfl | (split <;> simp)) ?_
        first | (exfalso; omega) | exact ⟨by rw [if_pos (by omega)], by rw [if_pos (by omega)]⟩ | exact ⟨by rw [if_neg (by omega)], by rw [if_neg (by omega)]⟩
      · refine p_iconst (pc := 52) C dX1_doAct_52 (by decide) ?_
        refine p_zret (pc := 53) C dX1_doAct_53 (by first | exact Or.inl rfl | exact Or.inr rfl | (split <;> simp)) ?_
        first | (exfalso; omega) | exact ⟨by rw [if_pos (by omega)], by rw [if_pos (by omega)]⟩ | exact ⟨by rw [if_neg (by omega)], by rw [if_neg (by omega)]⟩

set_option maxHeartbeats 4000000 in
set_option maxRecDepth 100000 in
theorem k_X1_becomeLike {K : KX} {d : Nat} {μ : Int → ME} {a c kd nm sg pt : Int} (ha : IR a) (h1 : μ a = oS kd nm sg pt c) {f : Int → Int} (hc : IR c) (h2 : μ c = mA 4 f) {b e kd' nm' sg' pt' : Int} (hb : IR b) (h3 : μ b = oS kd' nm' sg' pt' e) {g : Int → Int} (he : IR e) (h4 : μ e = mA 4 g) (hab : a ≠ b) (hac : a ≠ c) (hae : a ≠ e) : Ct K (d + 1) yX1_becomeLike cX1_becomeLike 2 none [vR a, vR b] μ (pU (mup (mup μ a (oS kd' nm' sg' pt' c)) c (mA 4 (fcp g f 0 0 4)))) := by
  refine Ct.of (by decide) (Nat.le_of_ble_eq_true rfl) (fun X C => ?_)
  refine p_aload_n (pc := 0) C dX1_becomeLike_0 rfl ?_
  refine p_aload_n (pc := 1) C dX1_becomeLike_1 rfl ?_
  refine p_get (pc := 2) C fl_X1_15 dX1_becomeLike_2 (by first | exact ha | exact hb | exact hc | exact he) (by (repeat refine mg_n (by omega) ?_); first | assumption | exact mup_s _ _ _) (by rfl) ?_
  refine p_putL (pc := 5) (fs' := [_, _, _, _, _]) C fp_X1_15 dX1_becomeLike_5 (by first | exact ha | exact hb | exact hc | exact he) (by (repeat refine mg_n (by omega) ?_); first | assumption | exact mup_s _ _ _) (by exact Nat.le_of_ble_eq_true rfl) (by rfl) ?_
  try refine p_mem (mup_mup _ _ _ _) ?_
  refine p_aload_n (pc := 8) C dX1_becomeLike_8 rfl ?_
  refine p_aload_n (pc := 9) C dX1_becomeLike_9 rfl ?_
  refine p_get (pc := 10) C fl_X1_26 dX1_becomeLike_10 (by first | exact ha | exact hb | exact hc | exact he) (by (repeat refine mg_n (by omega) ?_); first | assumption | exact mup_s _ _ _) (by rfl) ?_
  refine p_putL (pc := 13) (fs' := [_, _, _, _, _]) C fp_X1_26 dX1_becomeLike_13 (by first | exact ha | exact hb | exact hc | exact he) (by (repeat refine mg_n (by omega) ?_); first | assumption | exact mup_s _ _ _) (by exact Nat.le_of_ble_eq_true rfl) (by rfl) ?_
  try refine p_mem (mup_mup _ _ _ _) ?_
  refine p_aload_n (pc := 16) C dX1_becomeLike_16 rfl ?_
  refine p_aload_n (pc := 17) C dX1_becomeLike_17 rfl ?_
  refine p_get (pc := 18) C fl_X1_19 dX1_becomeLike_18 (by first | exact ha | exact hb | exact hc | exact he) (by (repeat refine mg_n (by omega) ?_); first | assumption | exact mup_s _ _ _) (by rfl) ?_
  refine p_putL (pc := 21) (fs' := [_, _, _, _, _]) C fp_X1_19 dX1_becomeLike_21 (by first | exact ha | exact hb | exact hc | exact he) (by (repeat refine mg_n (by omega) ?_); first | assumption | exact mup_s _ _ _) (by exact Nat.le_of_ble_eq_true rfl) (by rfl) ?_
  try refine p_mem (mup_mup _ _ _ _) ?_
  refine p_aload_n (pc := 24) C dX1_becomeLike_24 rfl ?_
  refine p_aload_n (pc := 25) C dX1_becomeLike_25 rfl ?_
  refine p_get (pc := 26) C fl_X1_45 dX1_becomeLike_26 (by first | exact ha | exact hb | exact hc | exact he) (by (repeat refine mg_n (by omega) ?_); first | assumption | exact mup_s _ _ _) (by rfl) ?_
  refine p_putL (pc := 29) (fs' := [_, _, _, _, _]) C fp_X1_45 dX1_becomeLike_29 (by first | exact ha | exact hb | exact hc | exact he) (by (repeat refine mg_n (by omega) ?_); first | assumption | exact mup_s _ _ _) (by exact Nat.le_of_ble_eq_true rfl) (by rfl) ?_
  try refine p_mem (mup_mup _ _ _ _) ?_
  refine p_aload_n (pc := 32) C dX1_becomeLike_32 rfl ?_
  refine p_get (pc := 33) C fl_X1_9 dX1_becomeLike_33 (by first | exact ha | exact hb | exact hc | exact he) (by (repeat refine mg_n (by omega) ?_); first | assumption | exact mup_s _ _ _) (by rfl) ?_
  refine p_iconst (pc := 36) C dX1_becomeLike_36 (by decide) ?_
  refine p_aload_n (pc := 37) C dX1_becomeLike_37 rfl ?_
  refine p_get (pc := 38) C fl_X1_9 dX1_becomeLike_38 (by first | exact ha | exact hb | exact hc | exact he) (by (repeat refine mg_n (by omega) ?_); first | assumption | exact mup_s _ _ _) (by rfl) ?_
  refine p_iconst (pc := 41) C dX1_becomeLike_41 (by decide) ?_
  refine p_iconst (pc := 42) C dX1_becomeLike_42 (by decide) ?_
  refine p_copy (pc := 43) C kl_X1_48 dX1_becomeLike_43 (by first | exact ha | exact hb | exact hc | exact he) (by first | exact ha | exact hb | exact hc | exact he) (by (repeat refine mg_n (by omega) ?_); first | assumption | exact mup_s _ _ _) (by (repeat refine mg_n (by omega) ?_); first | assumption | exact mup_s _ _ _) (by omega) (by omega) (by omega) (by omega) (by omega) ?_
  refine p_vret (pc := 46) C dX1_becomeLike_46 ?_
  exact ⟨rfl, rfl⟩
