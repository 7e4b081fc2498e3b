def trN (rg : Int → Int) (br p : Int) : Nat → Int
  | 0 => 0
  | t + 1 => (if br < rg p then 1 else 0) + trN rg br (p + 1) t
theorem tr_rd (rg : Int → Int) (np br : Int) : ∀ (t : Nat) (p : Int), p + (t : Int) ≤ np → rdN rg np br p t = trN rg br p t
  | 0, p, _ => rfl
  | t + 1, p, h => by
    rw [rdN, trN]
    match t, h with
    | 0, _ => rfl
    | t + 1, h =>
      rw [show nxp np p = p + 1 from if_pos (by push_cast at h; omega), tr_rd rg np br (t + 1) (p + 1) (by push_cast at h ⊢; omega)]

set_option maxHeartbeats 4000000 in
set_option maxRecDepth 100000 in
theorem k_X5_tooRough {K : KX} {d : Nat} {μ : Int → ME} {k : Int} {fl tr np ns day at_ rP rS lp lw lf sL sF nr : Int} (h0 : μ 42 = oM fl tr np ns day at_ rP rS lp lw lf sL sF nr) (hnp : np ≤ 6) (hns : 0 ≤ ns ∧ ns ≤ 5) {rg kd nm sg : Int → Int} (hB : MB rg kd nm sg np ns μ) (hk : 0 ≤ k ∧ k < ns) (hN : WN ns kd nm sg) (hnp0 : 0 ≤ np) : Ct K (d + 1) yX5_tooRough cX5_tooRough 4 (some .int) [vR 42, vI k] μ (pF (vI (rdN rg np (brg (kd k) (sg k)) 0 np.toNat)) μ) := by
  refine Ct.of (by decide) (Nat.le_of_ble_eq_true rfl) (fun X C => ?_)
  rw [tr_rd rg np (brg (kd k) (sg k)) np.toNat 0 (by omega)]
  have L : ∀ (t : Nat) (p n : Int), 0 ≤ p → np - p = (t : Int) → (0 ≤ n ∧ n ≤ p) → n + trN rg (brg (kd k) (sg k)) p t = trN rg (brg (kd k) (sg k)) 0 np.toNat → PW K X 4 (QM K X (pF (vI (trN rg (brg (kd k) (sg k)) 0 np.toNat)) μ)) 4 [(3, vI p), (2, vI n), (0, vR 42), (1, vI k)] [] μ := by
    intro t
    induction t with
    | zero =>
      intro p n g1 g2 g3 g4
      rw [trN] at g4
      refine p_iload_n (pc := 4) C dX5_tooRough_4 rfl ?_
      refine p_aload_n (pc := 5) C dX5_tooRough_5 rfl ?_
      refine p_get (pc := 6) C fl_X5_74 dX5_tooRough_6 ⟨by omega, by omega⟩ (by (repeat refine mg_n (by omega) ?_); first | assumption | exact mup_s _ _ _) (by rfl) ?_
      refine p_icmp_ge (pc := 9) (tgt := 40) C dX5_tooRough_9 (by decide) (fun c_9 => ?_) (fun h => by exfalso; omega)
      refine p_iload_n (pc := 40) C dX5_tooRough_40 rfl ?_
      refine p_iret (pc := 41) C dX5_tooRough_41 ?_
      exact ⟨sv (by omega), rfl⟩
    | succ t ih =>
      intro p n g1 g2 g3 g4
      rw [trN] at g4
      obtain ⟨⟨rgf, B1, C1⟩, -, -, -⟩ := id hB
      have q := C1 p g1 (by omega)
      refine p_iload_n (pc := 4) C dX5_tooRough_4 rfl ?_
      refine p_aload_n (pc := 5) C dX5_tooRough_5 rfl ?_
      refine p_get (pc := 6) C fl_X5_74 dX5_tooRough_6 ⟨by omega, by omega⟩ (by (repeat refine mg_n (by omega) ?_); first | assumption | exact mup_s _ _ _) (by rfl) ?_
      refine p_icmp_ge (pc := 9) (tgt := 40) C dX5_tooRough_9 (by decide) (fun h => by exfalso; omega) (fun c_9 => ?_)
      refine p_iload_n (pc := 12) C dX5_tooRough_12 rfl ?_
      refine p_aload_n (pc := 13) C dX5_tooRough_13 rfl ?_
      refine p_get (pc := 14) C fl_X5_19 dX5_tooRough_14 ⟨by omega, by omega⟩ (by (repeat refine mg_n (by omega) ?_); first | assumption | exact mup_s _ _ _) (by rfl) ?_
      refine p_iload_n (pc := 17) C dX5_tooRough_17 rfl ?_
      refine p_iald (pc := 18) C dX5_tooRough_18 ⟨by omega, by omega⟩ (by (repeat refine mg_n (by omega) ?_); first | assumption | exact mup_s _ _ _) (by omega) ?_
      refine p_aload_n (pc := 19) C dX5_tooRough_19 rfl ?_
      refine p_iload_n (pc := 20) C dX5_tooRough_20 rfl ?_
      refine p_callVF (pc := 21) C ln_X5_130 dX5_tooRough_21 (k_X5_bearsOf h0 hnp hns hB hk hN) ⟨by omega, by omega⟩ (by (repeat refine mg_n (by omega) ?_); first | assumption | exact mup_s _ _ _) rfl rfl rfl rfl (Nat.le_of_ble_eq_true rfl) ?_
      refine p_icmp_le (pc := 24) (tgt := 31) C dX5_tooRough_24 (by decide) (fun c_24 => ?_) (fun c_24 => ?_)
      · refine p_iconst (pc := 31) C dX5_tooRough_31 (by decide) ?_
        refine p_iadd (pc := 32) C dX5_tooRough_32 ⟨by omega, by omega⟩ ?_
        refine p_istore_n (pc := 33) (ls' := [(2, _), (3, _), (0, _), (1, _)]) C dX5_tooRough_33 (by decide) rfl ?_
        refine p_iinc (pc := 34) (ls' := [(3, _), (2, _), (0, _), (1, _)]) C dX5_tooRough_34 (by decide) rfl ⟨by omega, by omega⟩ rfl ?_
        refine p_goto (pc := 37) (tgt := 4) C dX5_tooRough_37 (by decide) ?_
        first
          | (rw [if_pos (by omega)] at g4; exact ih (p + 1) _ (by omega) (by omega) (by omega) (by omega))
          | (rw [if_neg (by omega)] at g4; exact ih (p + 1) _ (by omega) (by omega) (by omega) (by omega))
      · refine p_iconst (pc := 27) C dX5_tooRough_27 (by decide) ?_
        refine p_goto (pc := 28) (tgt := 32) C dX5_tooRough_28 (by decide) ?_
        refine p_iadd (pc := 32) C dX5_tooRough_32 ⟨by omega, by omega⟩ ?_
        refine p_istore_n (pc := 33) (ls' := [(2, _), (3, _), (0, _), (1, _)]) C dX5_tooRough_33 (by decide) rfl ?_
        refine p_iinc (pc := 34) (ls' := [(3, _), (2, _), (0, _), (1, _)]) C dX5_tooRough_34 (by decide) rfl ⟨by omega, by omega⟩ rfl ?_
        refine p_goto (pc := 37) (tgt := 4) C dX5_tooRough_37 (by decide) ?_
        first
          | (rw [if_pos (by omega)] at g4; exact ih (p + 1) _ (by omega) (by omega) (by omega) (by omega))
          | (rw [if_neg (by omega)] at g4; exact ih (p + 1) _ (by omega) (by omega) (by omega) (by omega))
  refine p_iconst (pc := 0) C dX5_tooRough_0 (by decide) ?_
  refine p_istore_n (pc := 1) (ls' := [(2, _), (0, _), (1, _)]) C dX5_tooRough_1 (by decide) rfl ?_
  refine p_iconst (pc := 2) C dX5_tooRough_2 (by decide) ?_
  refine p_istore_n (pc := 3) (ls' := [(3, _), (2, _), (0, _), (1, _)]) C dX5_tooRough_3 (by decide) rfl ?_
  exact L np.toNat 0 0 (by omega) (by omega) (by omega) (by omega)

def euN (x y : Int) : Nat → Int
  | 0 => x
  | t + 1 => if y = 0 then x else euN y (x % y) t
theorem euN_p : ∀ (t : Nat) (x y : Int), 0 ≤ y → 0 ≤ x → 0 < x + y → y ≤ (t : Int) → 0 < euN x y t
  | 0, x, y, h0, h1, h2, h3 => by rw [euN]; omega
  | t + 1, x, y, h0, h1, h2, h3 => by
    rw [euN]; split
    · omega
    · have a := Int.emod_lt_of_pos x (show 0 < y by omega)
      have b := Int.emod_nonneg x (show y ≠ 0 by omega)
      exact euN_p t y (x % y) b h0 (by omega) (by push_cast at h3; omega)
theorem lcp_0 {y : Int} (h : rnL y) : lcp y 0 = 0 ↔ y = 0 := by
  unfold lcp lg_cmp
  rw [show Int64.ofInt 0 = 0 from rfl]
  by_cases e : y = 0
  · subst e; simp
  · have hne : ¬ Int64.ofInt y = 0 := fun z => e (by rw [show (0 : Int64) = Int64.ofInt 0 from rfl, zl_eq h (by decide)] at z; exact z)
    simp only [e, iff_false]
    split
    · decide
    · first | decide | (split <;> first | decide | exact absurd ‹_› hne)

set_option maxHeartbeats 4000000 in
set_option maxRecDepth 100000 in
theorem k_X5_inLeastTerms {K : KX} {d : Nat} {μ : Int → ME} {u l w : Int} (hu : 0 ≤ u ∧ u ≤ 1000) (hl : 1 ≤ l ∧ l ≤ 1000) : Ct K (d) yX5_inLeastTerms cX5_inLeastTerms 11 (some .long) [vL u, vL l, vI w] μ (pF (vL ((if w = 0 then u else l) / euN u l l.toNat)) μ) := by
  refine Ct.of (by decide) (Nat.le_of_ble_eq_true rfl) (fun X C => ?_)
  have hp := euN_p l.toNat u l (by omega) (by omega) (by omega) (by omega)
  have L : ∀ (t : Nat) (x y : Int), 0 ≤ y → 0 ≤ x → 0 < x + y → y ≤ (t : Int) → (x ≤ 100000 ∧ y ≤ 100000) → euN x y t = euN u l l.toNat → PW K X 11 (QM K X (pF (vL ((if w = 0 then u else l) / euN u l l.toNat)) μ)) 6 [(7, vL y), (5, vL x), (0, vL u), (2, vL l), (4, vI w)] [] μ := by
    intro t
    induction t with
    | zero =>
      intro x y h0 h1 h2 h3 h4 h5
      have hy : y = 0 := by omega
      subst hy
      rw [euN] at h5
      refine p_lload (pc := 6) C dX5_inLeastTerms_6 rfl ?_
      refine p_lconst (pc := 8) C dX5_inLeastTerms_8 ?_
      refine p_lcmp (pc := 9) C dX5_inLeastTerms_9 ?_
      refine p_top (show lcp 0 0 = 0 from (lcp_0 (by decide)).mpr rfl) ?_
      refine p_if_eq (pc := 10) (tgt := 31) C dX5_inLeastTerms_10 (by decide) (fun c_10 => ?_) (fun h => by exfalso; omega)
      refine p_iload (pc := 31) C dX5_inLeastTerms_31 rfl ?_
      refine p_if_ne (pc := 33) (tgt := 43) C dX5_inLeastTerms_33 (by decide) (fun c_33 => ?_) (fun c_33 => ?_)
      · refine p_lload_n (pc := 43) C dX5_inLeastTerms_43 rfl ?_
        refine p_lload (pc := 44) C dX5_inLeastTerms_44 rfl ?_
        refine p_ldiv (pc := 46) C dX5_inLeastTerms_46 (by omega) (by omega) ?_
        refine p_lret (pc := 47) C dX5_inLeastTerms_47 ?_
        exact ⟨svL (by first | rw [if_pos (by omega), ← h5] | rw [if_neg (by omega), ← h5]), rfl⟩
      · refine p_lload_n (pc := 36) C dX5_inLeastTerms_36 rfl ?_
        refine p_lload (pc := 37) C dX5_inLeastTerms_37 rfl ?_
        refine p_ldiv (pc := 39) C dX5_inLeastTerms_39 (by omega) (by omega) ?_
        refine p_goto (pc := 40) (tgt := 47) C dX5_inLeastTerms_40 (by decide) ?_
        refine p_lret (pc := 47) C dX5_inLeastTerms_47 ?_
        exact ⟨svL (by first | rw [if_pos (by omega), ← h5] | rw [if_neg (by omega), ← h5]), rfl⟩
    | succ t ih =>
      intro x y h0 h1 h2 h3 h4 h5
      rw [euN] at h5
      have hc := lcp_0 (y := y) ⟨by omega, by omega⟩
      by_cases hy : y = 0
      · subst hy
        rw [if_pos rfl] at h5
        refine p_lload (pc := 6) C dX5_inLeastTerms_6 rfl ?_
        refine p_lconst (pc := 8) C dX5_inLeastTerms_8 ?_
        refine p_lcmp (pc := 9) C dX5_inLeastTerms_9 ?_
        refine p_top (hc.mpr rfl) ?_
        refine p_if_eq (pc := 10) (tgt := 31) C dX5_inLeastTerms_10 (by decide) (fun c_10 => ?_) (fun h => by exfalso; omega)
        refine p_iload (pc := 31) C dX5_inLeastTerms_31 rfl ?_
        refine p_if_ne (pc := 33) (tgt := 43) C dX5_inLeastTerms_33 (by decide) (fun c_33 => ?_) (fun c_33 => ?_)
        · refine p_lload_n (pc := 43) C dX5_inLeastTerms_43 rfl ?_
          refine p_lload (pc := 44) C dX5_inLeastTerms_44 rfl ?_
          refine p_ldiv (pc := 46) C dX5_inLeastTerms_46 (by omega) (by omega) ?_
          refine p_lret (pc := 47) C dX5_inLeastTerms_47 ?_
          exact ⟨svL (by first | rw [if_pos (by omega), ← h5] | rw [if_neg (by omega), ← h5]), rfl⟩
        · refine p_lload_n (pc := 36) C dX5_inLeastTerms_36 rfl ?_
          refine p_lload (pc := 37) C dX5_inLeastTerms_37 rfl ?_
          refine p_ldiv (pc := 39) C dX5_inLeastTerms_39 (by omega) (by omega) ?_
          refine p_goto (pc := 40) (tgt := 47) C dX5_inLeastTerms_40 (by decide) ?_
          refine p_lret (pc := 47) C dX5_inLeastTerms_47 ?_
          exact ⟨svL (by first | rw [if_pos (by omega), ← h5] | rw [if_neg (by omega), ← h5]), rfl⟩
      · rw [if_neg hy] at h5
        have a := Int.emod_lt_of_pos x (show 0 < y by omega)
        have b := Int.emod_nonneg x (show y ≠ 0 by omega)
        have hc2 : ¬ lcp y 0 = 0 := fun z => hy (hc.mp z)
        refine p_lload (pc := 6) C dX5_inLeastTerms_6 rfl ?_
        refine p_lconst (pc := 8) C dX5_inLeastTerms_8 ?_
        refine p_topL (show (((0 : Fin 2) : Nat) : Int) = 0 from rfl) ?_
        refine p_lcmp (pc := 9) C dX5_inLeastTerms_9 ?_
        refine p_if_eq (pc := 10) (tgt := 31) C dX5_inLeastTerms_10 (by decide) (fun h => by exfalso; omega) (fun c_10 => ?_)
        refine p_lload (pc := 13) C dX5_inLeastTerms_13 rfl ?_
        refine p_lload (pc := 15) C dX5_inLeastTerms_15 rfl ?_
        refine p_lrem (pc := 17) C dX5_inLeastTerms_17 (by omega) (by omega) ?_
        refine p_lstore (pc := 18) (ls' := [(9, _), (7, _), (5, _), (0, _), (2, _), (4, _)]) C dX5_inLeastTerms_18 (by decide) rfl ?_
        refine p_lload (pc := 20) C dX5_inLeastTerms_20 rfl ?_
        refine p_lstore (pc := 22) (ls' := [(5, _), (9, _), (7, _), (0, _), (2, _), (4, _)]) C dX5_inLeastTerms_22 (by decide) rfl ?_
        refine p_lload (pc := 24) C dX5_inLeastTerms_24 rfl ?_
        refine p_lstore (pc := 26) (ls' := [(7, _), (5, _), (9, _), (0, _), (2, _), (4, _)]) C dX5_inLeastTerms_26 (by decide) rfl ?_
        refine p_goto (pc := 28) (tgt := 6) C dX5_inLeastTerms_28 (by decide) ?_
        refine p_pick [0, 1, 3, 4, 5] (ls' := [(7, _), (5, _), (0, _), (2, _), (4, _)]) rfl ?_
        exact ih y (x % y) b h0 (by omega) (by push_cast at h3; omega) (by omega) h5
  refine p_lload_n (pc := 0) C dX5_inLeastTerms_0 rfl ?_
  refine p_lstore (pc := 1) (ls' := [(5, _), (0, _), (2, _), (4, _)]) C dX5_inLeastTerms_1 (by decide) rfl ?_
  refine p_lload_n (pc := 3) C dX5_inLeastTerms_3 rfl ?_
  refine p_lstore (pc := 4) (ls' := [(7, _), (5, _), (0, _), (2, _), (4, _)]) C dX5_inLeastTerms_4 (by decide) rfl ?_
  exact L l.toNat u l (by omega) (by omega) (by omega) (by omega) (by omega) rfl

theorem eu_cd0 : ∀ u : Nat, u < 25 → ∀ l : Nat, l < 7 → 2 ≤ l → euN (u : Int) (l : Int) l = cdN (u : Int) (l : Int) l := by decide +kernel
theorem eu_cd {u l : Int} (hu : 0 ≤ u ∧ u ≤ 24) (hl : 2 ≤ l ∧ l ≤ 6) : euN u l l.toNat = cdN u l l.toNat := by
  have h := eu_cd0 u.toNat (by omega) l.toNat (by omega) (by omega)
  rw [show ((u.toNat : Nat) : Int) = u by omega, show ((l.toNat : Nat) : Int) = l by omega] at h
  exact h

set_option maxHeartbeats 4000000 in
set_option maxRecDepth 100000 in
theorem q_X5_odds {K : KX} {d : Nat} {μ : Int → ME} {k g w : Int} {np ns day nr tr fl : Int} {rg kd nm sg pt : Int → Int} {ca : Int → Int → Int} {rs rp rl th la ln : Int → Int} {ce : Int → Int → Int} (hV : MV np ns day nr tr fl rg kd nm sg pt ca rs rp rl th la ln ce μ) (hW : WF np ns day nr tr fl rg kd nm sg pt ca rs rp rl th la ln ce) : Ct K (d + 2) yX5_odds cX5_odds 4 (some .long) [vR 42, vI k, vI g, vI w] μ (fun r μ' => (∀ a, a < 42 → μ' a = μ a) ∧ (if ¬ ((0 ≤ k ∧ k < ns) ∧ (0 ≤ g ∧ g < 4) ∧ (0 ≤ w ∧ w ≤ 1)) then r = some (vL (-9223372036854775808)) ∧ MV np ns day nr tr fl rg kd nm sg pt ca rs rp rl th la ln ce μ' else r = some (vL (shT (if gtg (ca k) (nm k) = g then rdN rg np (brg (kd k) (sg k)) 0 np.toNat else 0) np w)) ∧ MV np ns day nr tr fl rg kd nm sg pt ca rs rp rl th la ln ce μ')) := by
  refine Ct.of (by decide) (Nat.le_of_ble_eq_true rfl) (fun X C => ?_)
  obtain ⟨m42, m43, m44, m45, mB, mD, ⟨m52, m53, m54, m55, m56⟩, m57, m58, m59⟩ := id hV
  obtain ⟨m46, m47, m48, m49⟩ := id mB
  obtain ⟨at_, rP, rS, lp, lw, lf, sL, sF, h0⟩ := id m42
  obtain ⟨f43, h43, e43⟩ := id m43
  obtain ⟨f44, h44, e44⟩ := id m44
  obtain ⟨f45, h45, e45⟩ := id m45
  obtain ⟨f46, h46, e46⟩ := id m46
  obtain ⟨f47, h47, e47⟩ := id m47
  obtain ⟨f48, h48, e48⟩ := id m48
  obtain ⟨f49, h49, e49⟩ := id m49
  obtain ⟨pf, cf, h50, h51, hMR⟩ := id mD
  obtain ⟨f57, h57, e57⟩ := id m57
  obtain ⟨f58, h58, e58⟩ := id m58
  obtain ⟨f59, h59, e59⟩ := id m59
  obtain ⟨w0, w1, w2, w3, w4, w5, w6⟩ := id hW
  refine p_aload_n (pc := 0) C dX5_odds_0 rfl ?_
  refine p_iload_n (pc := 1) C dX5_odds_1 rfl ?_
  refine p_callVF (pc := 2) C ln_X5_127 dX5_odds_2 (k_X5_isShip (by (repeat refine mg_n (by omega) ?_); first | assumption | exact mup_s _ _ _)) ⟨by omega, by omega⟩ (by (repeat refine mg_n (by omega) ?_); first | assumption | exact mup_s _ _ _) rfl rfl rfl rfl (Nat.le_of_ble_eq_true rfl) ?_
  refine p_ifeq_b (pc := 5) (tgt := 24) C dX5_odds_5 (by decide) (fun c_5 => ?_) (fun c_5 => ?_)
  · refine p_ldc2 (pc := 24) C kc_X5_65 dX5_odds_24 ?_
    refine p_lret (pc := 27) C dX5_odds_27 ?_
    first
      | (exfalso; omega)
      | (refine ⟨fun q hq => by (repeat (refine mg_n (by omega) ?_)); rfl, ?_⟩; rw [if_pos (by omega)]; exact ⟨svL (by decide +kernel), hV⟩)
      | (refine ⟨fun q hq => by (repeat (refine mg_n (by omega) ?_)); rfl, ?_⟩; rw [if_neg (by omega)]; exact ⟨svL (by unfold shT; first | rw [if_pos (show gtg (ca k) (nm k) = g by omega), eu_cd (by omega) (by omega)] | rw [if_neg (show ¬ gtg (ca k) (nm k) = g by omega), eu_cd (by omega) (by omega)]), hV⟩)
  · refine p_iload_n (pc := 8) C dX5_odds_8 rfl ?_
    refine p_callSF (pc := 9) C ln_X5_148 dX5_odds_9 (k_X5_isGood) rfl rfl (Nat.le_of_ble_eq_true rfl) ?_
    refine p_ifeq_b (pc := 12) (tgt := 24) C dX5_odds_12 (by decide) (fun c_12 => ?_) (fun c_12 => ?_)
    · refine p_ldc2 (pc := 24) C kc_X5_65 dX5_odds_24 ?_
      refine p_lret (pc := 27) C dX5_odds_27 ?_
      first
        | (exfalso; omega)
        | (refine ⟨fun q hq => by (repeat (refine mg_n (by omega) ?_)); rfl, ?_⟩; rw [if_pos (by omega)]; exact ⟨svL (by decide +kernel), hV⟩)
        | (refine ⟨fun q hq => by (repeat (refine mg_n (by omega) ?_)); rfl, ?_⟩; rw [if_neg (by omega)]; exact ⟨svL (by unfold shT; first | rw [if_pos (show gtg (ca k) (nm k) = g by omega), eu_cd (by omega) (by omega)] | rw [if_neg (show ¬ gtg (ca k) (nm k) = g by omega), eu_cd (by omega) (by omega)]), hV⟩)
    · refine p_iload_n (pc := 15) C dX5_odds_15 rfl ?_
      refine p_iconst (pc := 16) C dX5_odds_16 (by decide) ?_
      refine p_iconst (pc := 17) C dX5_odds_17 (by decide) ?_
      refine p_callSF (pc := 18) C ln_X5_67 dX5_odds_18 (k_X5_within) rfl rfl (Nat.le_of_ble_eq_true rfl) ?_
      refine p_ifne_b (pc := 21) (tgt := 28) C dX5_odds_21 (by decide) (fun c_21 => ?_) (fun c_21 => ?_)
      · obtain ⟨n1, n2, n3⟩ := w3 k (by omega) (by omega)
        obtain ⟨x1, x2⟩ := w4 k (by omega) (by omega)
        obtain ⟨r1, r2⟩ := hMR k (by omega) (by omega)
        dsimp only at r1 r2
        have q7 := e47 k (by omega) (by omega)
        have q8 := e48 k (by omega) (by omega)
        have q9 := e49 k (by omega) (by omega)
        have hsl : ∀ g, 0 ≤ g → g < 4 → (fun g => cf (4 * k + g)) g = ca k g := fun g g0 g1 => r2 g g0 g1
        have hbs : bd4 (fun g => cf (4 * k + g)) 100 := bd4_c hsl (x2.le (by omega))
        have hgc : gtg (fun g => cf (4 * k + g)) (nm k) = gtg (ca k) (nm k) := gtg_c hsl n2
        have hrd := rdN_r rg np (brg (kd k) (sg k)) np.toNat 0
        have hgr := gtg_r x2 n2
        refine p_aload_n (pc := 28) C dX5_odds_28 rfl ?_
        refine p_iload_n (pc := 29) C dX5_odds_29 rfl ?_
        refine p_callVF (pc := 30) C ln_X5_151 dX5_odds_30 (k_X5_wouldLose h0 (by omega) (by omega) mB (by omega) h51 w3) ⟨by omega, by omega⟩ (by (repeat refine mg_n (by omega) ?_); first | assumption | exact mup_s _ _ _) rfl rfl rfl rfl (Nat.le_of_ble_eq_true rfl) ?_
        refine p_iload_n (pc := 33) C dX5_odds_33 rfl ?_
        refine p_icmp_ne (pc := 34) (tgt := 46) C dX5_odds_34 (by decide) (fun c_34 => ?_) (fun c_34 => ?_)
        · refine p_lconst (pc := 46) C dX5_odds_46 ?_
          try refine p_topL (show (((0 : Fin 2) : Nat) : Int) = 0 from rfl) ?_
          refine p_aload_n (pc := 47) C dX5_odds_47 rfl ?_
          refine p_get (pc := 48) C fl_X5_74 dX5_odds_48 ⟨by omega, by omega⟩ (by (repeat refine mg_n (by omega) ?_); first | assumption | exact mup_s _ _ _) (by rfl) ?_
          refine p_i2l (pc := 51) C dX5_odds_51 ?_
          refine p_iload_n (pc := 52) C dX5_odds_52 rfl ?_
          refine p_callSF (pc := 53) C ln_X5_225 dX5_odds_53 (k_X5_inLeastTerms (by omega) (by omega)) rfl rfl (Nat.le_of_ble_eq_true rfl) ?_
          refine p_lret (pc := 56) C dX5_odds_56 ?_
          first
            | (exfalso; omega)
            | (refine ⟨fun q hq => by (repeat (refine mg_n (by omega) ?_)); rfl, ?_⟩; rw [if_pos (by omega)]; exact ⟨svL (by decide +kernel), hV⟩)
            | (refine ⟨fun q hq => by (repeat (refine mg_n (by omega) ?_)); rfl, ?_⟩; rw [if_neg (by omega)]; exact ⟨svL (by unfold shT; first | rw [if_pos (show gtg (ca k) (nm k) = g by omega), eu_cd (by omega) (by omega)] | rw [if_neg (show ¬ gtg (ca k) (nm k) = g by omega), eu_cd (by omega) (by omega)]), hV⟩)
        · refine p_aload_n (pc := 37) C dX5_odds_37 rfl ?_
          refine p_iload_n (pc := 38) C dX5_odds_38 rfl ?_
          refine p_callVF (pc := 39) C ln_X5_222 dX5_odds_39 (k_X5_tooRough h0 (by omega) (by omega) mB (by omega) w3 (by omega)) ⟨by omega, by omega⟩ (by (repeat refine mg_n (by omega) ?_); first | assumption | exact mup_s _ _ _) rfl rfl rfl rfl (Nat.le_of_ble_eq_true rfl) ?_
          refine p_i2l (pc := 42) C dX5_odds_42 ?_
          refine p_goto (pc := 43) (tgt := 47) C dX5_odds_43 (by decide) ?_
          try refine p_topL (show (((0 : Fin 2) : Nat) : Int) = 0 from rfl) ?_
          refine p_aload_n (pc := 47) C dX5_odds_47 rfl ?_
          refine p_get (pc := 48) C fl_X5_74 dX5_odds_48 ⟨by omega, by omega⟩ (by (repeat refine mg_n (by omega) ?_); first | assumption | exact mup_s _ _ _) (by rfl) ?_
          refine p_i2l (pc := 51) C dX5_odds_51 ?_
          refine p_iload_n (pc := 52) C dX5_odds_52 rfl ?_
          refine p_callSF (pc := 53) C ln_X5_225 dX5_odds_53 (k_X5_inLeastTerms (by omega) (by omega)) rfl rfl (Nat.le_of_ble_eq_true rfl) ?_
          refine p_lret (pc := 56) C dX5_odds_56 ?_
          first
            | (exfalso; omega)
            | (refine ⟨fun q hq => by (repeat (refine mg_n (by omega) ?_)); rfl, ?_⟩; rw [if_pos (by omega)]; exact ⟨svL (by decide +kernel), hV⟩)
            | (refine ⟨fun q hq => by (repeat (refine mg_n (by omega) ?_)); rfl, ?_⟩; rw [if_neg (by omega)]; exact ⟨svL (by unfold shT; first | rw [if_pos (show gtg (ca k) (nm k) = g by omega), eu_cd (by omega) (by omega)] | rw [if_neg (show ¬ gtg (ca k) (nm k) = g by omega), eu_cd (by omega) (by omega)]), hV⟩)
      · refine p_ldc2 (pc := 24) C kc_X5_65 dX5_odds_24 ?_
        refine p_lret (pc := 27) C dX5_odds_27 ?_
        first
          | (exfalso; omega)
          | (refine ⟨fun q hq => by (repeat (refine mg_n (by omega) ?_)); rfl, ?_⟩; rw [if_pos (by omega)]; exact ⟨svL (by decide +kernel), hV⟩)
          | (refine ⟨fun q hq => by (repeat (refine mg_n (by omega) ?_)); rfl, ?_⟩; rw [if_neg (by omega)]; exact ⟨svL (by unfold shT; first | rw [if_pos (show gtg (ca k) (nm k) = g by omega), eu_cd (by omega) (by omega)] | rw [if_neg (show ¬ gtg (ca k) (nm k) = g by omega), eu_cd (by omega) (by omega)]), hV⟩)

set_option maxHeartbeats 4000000 in
set_option maxRecDepth 100000 in
theorem q_X5_premium {K : KX} {d : Nat} {μ : Int → ME} {k w : Int} {np ns day nr tr fl : Int} {rg kd nm sg pt : Int → Int} {ca : Int → Int → Int} {rs rp rl th la ln : Int → Int} {ce : Int → Int → Int} (hV : MV np ns day nr tr fl rg kd nm sg pt ca rs rp rl th la ln ce μ) (hW : WF np ns day nr tr fl rg kd nm sg pt ca rs rp rl th la ln ce) : Ct K (d + 2) yX5_premium cX5_premium 4 (some .long) [vR 42, vI k, vI w] μ (fun r μ' => (∀ a, a < 42 → μ' a = μ a) ∧ (if ¬ ((0 ≤ k ∧ k < ns) ∧ (0 ≤ w ∧ w ≤ 1)) then r = some (vL (-9223372036854775808)) ∧ MV np ns day nr tr fl rg kd nm sg pt ca rs rp rl th la ln ce μ' else r = some (vL (shT (if gtg (ca k) (nm k) = -9 then 0 else rdN rg np (brg (kd k) (sg k)) 0 np.toNat * (gtg (ca k) (nm k) + 1)) np w)) ∧ MV np ns day nr tr fl rg kd nm sg pt ca rs rp rl th la ln ce μ')) := by
  refine Ct.of (by decide) (Nat.le_of_ble_eq_true rfl) (fun X C => ?_)
  obtain ⟨m42, m43, m44, m45, mB, mD, ⟨m52, m53, m54, m55, m56⟩, m57, m58, m59⟩ := id hV
  obtain ⟨m46, m47, m48, m49⟩ := id mB
  obtain ⟨at_, rP, rS, lp, lw, lf, sL, sF, h0⟩ := id m42
  obtain ⟨f43, h43, e43⟩ := id m43
  obtain ⟨f44, h44, e44⟩ := id m44
  obtain ⟨f45, h45, e45⟩ := id m45
  obtain ⟨f46, h46, e46⟩ := id m46
  obtain ⟨f47, h47, e47⟩ := id m47
  obtain ⟨f48, h48, e48⟩ := id m48
  obtain ⟨f49, h49, e49⟩ := id m49
  obtain ⟨pf, cf, h50, h51, hMR⟩ := id mD
  obtain ⟨f57, h57, e57⟩ := id m57
  obtain ⟨f58, h58, e58⟩ := id m58
  obtain ⟨f59, h59, e59⟩ := id m59
  obtain ⟨w0, w1, w2, w3, w4, w5, w6⟩ := id hW
  refine p_aload_n (pc := 0) C dX5_premium_0 rfl ?_
  refine p_iload_n (pc := 1) C dX5_premium_1 rfl ?_
  refine p_callVF (pc := 2) C ln_X5_127 dX5_premium_2 (k_X5_isShip (by (repeat refine mg_n (by omega) ?_); first | assumption | exact mup_s _ _ _)) ⟨by omega, by omega⟩ (by (repeat refine mg_n (by omega) ?_); first | assumption | exact mup_s _ _ _) rfl rfl rfl rfl (Nat.le_of_ble_eq_true rfl) ?_
  refine p_ifeq_b (pc := 5) (tgt := 17) C dX5_premium_5 (by decide) (fun c_5 => ?_) (fun c_5 => ?_)
  · refine p_ldc2 (pc := 17) C kc_X5_65 dX5_premium_17 ?_
    refine p_lret (pc := 20) C dX5_premium_20 ?_
    first
      | (exfalso; omega)
      | (refine ⟨fun q hq => by (repeat (refine mg_n (by omega) ?_)); rfl, ?_⟩; rw [if_pos (by omega)]; exact ⟨svL (by decide +kernel), hV⟩)
      | (refine ⟨fun q hq => by (repeat (refine mg_n (by omega) ?_)); rfl, ?_⟩; rw [if_neg (by omega)]; exact ⟨svL (by unfold shT; first | rw [if_pos (show gtg (ca k) (nm k) = -9 by omega), eu_cd (by omega) (by omega)] | (rw [if_neg (show ¬ gtg (ca k) (nm k) = -9 by omega), hgc, Int.mul_comm, eu_cd (by omega) (by omega)])), hV⟩)
  · refine p_iload_n (pc := 8) C dX5_premium_8 rfl ?_
    refine p_iconst (pc := 9) C dX5_premium_9 (by decide) ?_
    refine p_iconst (pc := 10) C dX5_premium_10 (by decide) ?_
    refine p_callSF (pc := 11) C ln_X5_67 dX5_premium_11 (k_X5_within) rfl rfl (Nat.le_of_ble_eq_true rfl) ?_
    refine p_ifne_b (pc := 14) (tgt := 21) C dX5_premium_14 (by decide) (fun c_14 => ?_) (fun c_14 => ?_)
    · obtain ⟨n1, n2, n3⟩ := w3 k (by omega) (by omega)
      obtain ⟨x1, x2⟩ := w4 k (by omega) (by omega)
      obtain ⟨r1, r2⟩ := hMR k (by omega) (by omega)
      dsimp only at r1 r2
      have q7 := e47 k (by omega) (by omega)
      have q8 := e48 k (by omega) (by omega)
      have q9 := e49 k (by omega) (by omega)
      have hsl : ∀ g, 0 ≤ g → g < 4 → (fun g => cf (4 * k + g)) g = ca k g := fun g g0 g1 => r2 g g0 g1
      have hbs : bd4 (fun g => cf (4 * k + g)) 100 := bd4_c hsl (x2.le (by omega))
      have hgc : gtg (fun g => cf (4 * k + g)) (nm k) = gtg (ca k) (nm k) := gtg_c hsl n2
      have hrd := rdN_r rg np (brg (kd k) (sg k)) np.toNat 0
      have hgr := gtg_r x2 n2
      refine p_aload_n (pc := 21) C dX5_premium_21 rfl ?_
      refine p_iload_n (pc := 22) C dX5_premium_22 rfl ?_
      refine p_callVF (pc := 23) C ln_X5_151 dX5_premium_23 (k_X5_wouldLose h0 (by omega) (by omega) mB (by omega) h51 w3) ⟨by omega, by omega⟩ (by (repeat refine mg_n (by omega) ?_); first | assumption | exact mup_s _ _ _) rfl rfl rfl rfl (Nat.le_of_ble_eq_true rfl) ?_
      refine p_istore_n (pc := 26) (ls' := [(3, _), (0, _), (1, _), (2, _)]) C dX5_premium_26 (by decide) rfl ?_
      refine p_iload_n (pc := 27) C dX5_premium_27 rfl ?_
      refine p_bipush (pc := 28) C dX5_premium_28 (by decide) ?_
      refine p_icmp_ne (pc := 30) (tgt := 37) C dX5_premium_30 (by decide) (fun c_30 => ?_) (fun c_30 => ?_)
      · refine p_iload_n (pc := 37) C dX5_premium_37 rfl ?_
        refine p_iconst (pc := 38) C dX5_premium_38 (by decide) ?_
        refine p_iadd (pc := 39) C dX5_premium_39 ⟨by omega, by omega⟩ ?_
        refine p_aload_n (pc := 40) C dX5_premium_40 rfl ?_
        refine p_iload_n (pc := 41) C dX5_premium_41 rfl ?_
        refine p_callVF (pc := 42) C ln_X5_222 dX5_premium_42 (k_X5_tooRough h0 (by omega) (by omega) mB (by omega) w3 (by omega)) ⟨by omega, by omega⟩ (by (repeat refine mg_n (by omega) ?_); first | assumption | exact mup_s _ _ _) rfl rfl rfl rfl (Nat.le_of_ble_eq_true rfl) ?_
        have hpr0 := pr_b (a := rdN rg np (brg (kd k) (sg k)) 0 np.toNat) (b := gtg (ca k) (nm k) + 1) (by omega) (by omega)
        have hpr := hpr0
        rw [← hgc, Int.mul_comm] at hpr
        refine p_imul (pc := 45) C dX5_premium_45 ⟨by omega, by omega⟩ ?_
        refine p_i2l (pc := 46) C dX5_premium_46 ?_
        try refine p_topL (show (((0 : Fin 2) : Nat) : Int) = 0 from rfl) ?_
        refine p_aload_n (pc := 47) C dX5_premium_47 rfl ?_
        refine p_get (pc := 48) C fl_X5_74 dX5_premium_48 ⟨by omega, by omega⟩ (by (repeat refine mg_n (by omega) ?_); first | assumption | exact mup_s _ _ _) (by rfl) ?_
        refine p_i2l (pc := 51) C dX5_premium_51 ?_
        refine p_iload_n (pc := 52) C dX5_premium_52 rfl ?_
        refine p_callSF (pc := 53) C ln_X5_225 dX5_premium_53 (k_X5_inLeastTerms (by omega) (by omega)) rfl rfl (Nat.le_of_ble_eq_true rfl) ?_
        refine p_lret (pc := 56) C dX5_premium_56 ?_
        first
          | (exfalso; omega)
          | (refine ⟨fun q hq => by (repeat (refine mg_n (by omega) ?_)); rfl, ?_⟩; rw [if_pos (by omega)]; exact ⟨svL (by decide +kernel), hV⟩)
          | (refine ⟨fun q hq => by (repeat (refine mg_n (by omega) ?_)); rfl, ?_⟩; rw [if_neg (by omega)]; exact ⟨svL (by unfold shT; first | rw [if_pos (show gtg (ca k) (nm k) = -9 by omega), eu_cd (by omega) (by omega)] | (rw [if_neg (show ¬ gtg (ca k) (nm k) = -9 by omega), hgc, Int.mul_comm, eu_cd (by omega) (by omega)])), hV⟩)
      · refine p_lconst (pc := 33) C dX5_premium_33 ?_
        refine p_goto (pc := 34) (tgt := 47) C dX5_premium_34 (by decide) ?_
        try refine p_topL (show (((0 : Fin 2) : Nat) : Int) = 0 from rfl) ?_
        refine p_aload_n (pc := 47) C dX5_premium_47 rfl ?_
        refine p_get (pc := 48) C fl_X5_74 dX5_premium_48 ⟨by omega, by omega⟩ (by (repeat refine mg_n (by omega) ?_); first | assumption | exact mup_s _ _ _) (by rfl) ?_
        refine p_i2l (pc := 51) C dX5_premium_51 ?_
        refine p_iload_n (pc := 52) C dX5_premium_52 rfl ?_
        refine p_callSF (pc := 53) C ln_X5_225 dX5_premium_53 (k_X5_inLeastTerms (by omega) (by omega)) rfl rfl (Nat.le_of_ble_eq_true rfl) ?_
        refine p_lret (pc := 56) C dX5_premium_56 ?_
        first
          | (exfalso; omega)
          | (refine ⟨fun q hq => by (repeat (refine mg_n (by omega) ?_)); rfl, ?_⟩; rw [if_pos (by omega)]; exact ⟨svL (by decide +kernel), hV⟩)
          | (refine ⟨fun q hq => by (repeat (refine mg_n (by omega) ?_)); rfl, ?_⟩; rw [if_neg (by omega)]; exact ⟨svL (by unfold shT; first | rw [if_pos (show gtg (ca k) (nm k) = -9 by omega), eu_cd (by omega) (by omega)] | (rw [if_neg (show ¬ gtg (ca k) (nm k) = -9 by omega), hgc, Int.mul_comm, eu_cd (by omega) (by omega)])), hV⟩)
    · refine p_ldc2 (pc := 17) C kc_X5_65 dX5_premium_17 ?_
      refine p_lret (pc := 20) C dX5_premium_20 ?_
      first
        | (exfalso; omega)
        | (refine ⟨fun q hq => by (repeat (refine mg_n (by omega) ?_)); rfl, ?_⟩; rw [if_pos (by omega)]; exact ⟨svL (by decide +kernel), hV⟩)
        | (refine ⟨fun q hq => by (repeat (refine mg_n (by omega) ?_)); rfl, ?_⟩; rw [if_neg (by omega)]; exact ⟨svL (by unfold shT; first | rw [if_pos (show gtg (ca k) (nm k) = -9 by omega), eu_cd (by omega) (by omega)] | (rw [if_neg (show ¬ gtg (ca k) (nm k) = -9 by omega), hgc, Int.mul_comm, eu_cd (by omega) (by omega)])), hV⟩)

def szI (l : Int) : Int := l % 2 + l / 2 % 2 + l / 4 % 2 + l / 8 % 2 + l / 16 % 2
theorem bits0 : ∀ n : Nat, n < 32 → iShr (n : Int) 1 = (n : Int) / 2 ∧ iAnd (n : Int) 1 = (n : Int) % 2 ∧ bcI (n : Int) = szI (n : Int) ∧ szI (n : Int) = (n : Int) % 2 + szI ((n : Int) / 2) := by decide +kernel
theorem bits1 {l : Int} (h : 0 ≤ l ∧ l < 32) : iShr l 1 = l / 2 ∧ iAnd l 1 = l % 2 ∧ bcI l = szI l ∧ szI l = l % 2 + szI (l / 2) := by
  have := bits0 l.toNat (by omega)
  rw [show ((l.toNat : Nat) : Int) = l by omega] at this
  exact this
theorem orb0 : ∀ t : Nat, t < 5 → ∀ m : Nat, m < 16 → m < 2 ^ t → 0 ≤ iOr (m : Int) (iShl 1 (t : Int)) ∧ iOr (m : Int) (iShl 1 (t : Int)) < 2 ^ (t + 1) := by decide +kernel
theorem metN_b (nm : Int → Int) (ca : Int → Int → Int) : ∀ t : Nat, t ≤ 5 → 0 ≤ metN nm ca t ∧ metN nm ca t < 2 ^ t
  | 0, _ => by rw [metN]; decide
  | t + 1, h => by
    have ih := metN_b nm ca t (by omega)
    have hp : (2 : Int) ^ (t + 1) = 2 * 2 ^ t := by rw [Int.pow_succ]; omega
    rw [metN]
    split
    · have h16 : (2 : Int) ^ t ≤ 16 := by
        rcases (show t = 0 ∨ t = 1 ∨ t = 2 ∨ t = 3 ∨ t = 4 by omega) with rfl | rfl | rfl | rfl | rfl <;> decide
      have := orb0 t (by omega) (metN nm ca t).toNat (by omega) (by
        have : (((metN nm ca t).toNat : Nat) : Int) < ((2 ^ t : Nat) : Int) := by push_cast; omega
        omega)
      rw [show (((metN nm ca t).toNat : Nat) : Int) = metN nm ca t by omega] at this
      exact this
    · omega

set_option maxHeartbeats 4000000 in
set_option maxRecDepth 100000 in
theorem k_X5_size {K : KX} {d : Nat} {μ : Int → ME} {v : Int} (hv : 0 ≤ v ∧ v < 32) : Ct K (d) yX5_size cX5_size 3 (some .int) [vI v] μ (pF (vI (szI v)) μ) := by
  refine Ct.of (by decide) (Nat.le_of_ble_eq_true rfl) (fun X C => ?_)
  have L : ∀ (t : Nat) (l n : Int), (0 ≤ l ∧ l < 32) → l ≤ (t : Int) → (0 ≤ n ∧ n ≤ 100 - (t : Int)) → n + szI l = szI v → PW K X 3 (QM K X (pF (vI (szI v)) μ)) 4 [(2, vI l), (1, vI n), (0, vI v)] [] μ := by
    intro t
    induction t with
    | zero =>
      intro l n g1 g2 g3 g4
      have e : l = 0 := by omega
      subst e
      refine p_iload_n (pc := 4) C dX5_size_4 rfl ?_
      refine p_if_le (pc := 5) (tgt := 21) C dX5_size_5 (by decide) (fun c_5 => ?_) (fun h => by exfalso; omega)
      refine p_iload_n (pc := 21) C dX5_size_21 rfl ?_
      refine p_iret (pc := 22) C dX5_size_22 ?_
      have h9 : szI 0 = 0 := by decide
      exact ⟨sv (by omega), rfl⟩
    | succ t ih =>
      intro l n g1 g2 g3 g4
      obtain ⟨b1, b2, -, b4⟩ := bits1 g1
      refine p_iload_n (pc := 4) C dX5_size_4 rfl ?_
      refine p_if_le (pc := 5) (tgt := 21) C dX5_size_5 (by decide) (fun c_5 => ?_) (fun c_5 => ?_)
      · refine p_iload_n (pc := 21) C dX5_size_21 rfl ?_
        refine p_iret (pc := 22) C dX5_size_22 ?_
        have e : l = 0 := by omega
        subst e
        have h9 : szI 0 = 0 := by decide
        exact ⟨sv (by omega), rfl⟩
      · refine p_iload_n (pc := 8) C dX5_size_8 rfl ?_
        refine p_iload_n (pc := 9) C dX5_size_9 rfl ?_
        refine p_iconst (pc := 10) C dX5_size_10 (by decide) ?_
        refine p_iand (pc := 11) C dX5_size_11 ?_
        have hb2 : iAnd l 1 = l % 2 := b2
        refine p_iadd (pc := 12) C dX5_size_12 ⟨by omega, by omega⟩ ?_
        refine p_istore_n (pc := 13) (ls' := [(1, _), (2, _), (0, _)]) C dX5_size_13 (by decide) rfl ?_
        refine p_iload_n (pc := 14) C dX5_size_14 rfl ?_
        refine p_iconst (pc := 15) C dX5_size_15 (by decide) ?_
        refine p_ishr (pc := 16) C dX5_size_16 ?_
        refine p_istore_n (pc := 17) (ls' := [(2, _), (1, _), (0, _)]) C dX5_size_17 (by decide) rfl ?_
        refine p_goto (pc := 18) (tgt := 4) C dX5_size_18 (by decide) ?_
        refine p_ls (by rw [b1, b2]) ?_
        exact ih (l / 2) (n + l % 2) (by omega) (by push_cast at g2; omega) (by push_cast at g3; omega) (by omega)
  refine p_iconst (pc := 0) C dX5_size_0 (by decide) ?_
  refine p_istore_n (pc := 1) (ls' := [(1, _), (0, _)]) C dX5_size_1 (by decide) rfl ?_
  refine p_iload_n (pc := 2) C dX5_size_2 rfl ?_
  refine p_istore_n (pc := 3) (ls' := [(2, _), (1, _), (0, _)]) C dX5_size_3 (by decide) rfl ?_
  exact L v.toNat v 0 hv (by omega) (by omega) (by omega)

set_option maxHeartbeats 4000000 in
set_option maxRecDepth 100000 in
theorem q_X5_many {K : KX} {d : Nat} {μ : Int → ME} {w : Int} {np ns day nr tr fl : Int} {rg kd nm sg pt : Int → Int} {ca : Int → Int → Int} {rs rp rl th la ln : Int → Int} {ce : Int → Int → Int} (hV : MV np ns day nr tr fl rg kd nm sg pt ca rs rp rl th la ln ce μ) (hW : WF np ns day nr tr fl rg kd nm sg pt ca rs rp rl th la ln ce) : Ct K (d + 2) yX5_many cX5_many 2 (some .int) [vR 42, vI w] μ (fun r μ' => (∀ a, a < 42 → μ' a = μ a) ∧ (r = some (vI (mnT w ns np day nr (metN nm ca ns.toNat))) ∧ MV np ns day nr tr fl rg kd nm sg pt ca rs rp rl th la ln ce μ')) := by
  refine Ct.of (by decide) (Nat.le_of_ble_eq_true rfl) (fun X C => ?_)
  obtain ⟨m42, m43, m44, m45, mB, mD, ⟨m52, m53, m54, m55, m56⟩, m57, m58, m59⟩ := id hV
  obtain ⟨m46, m47, m48, m49⟩ := id mB
  obtain ⟨at_, rP, rS, lp, lw, lf, sL, sF, h0⟩ := id m42
  obtain ⟨f43, h43, e43⟩ := id m43
  obtain ⟨f44, h44, e44⟩ := id m44
  obtain ⟨f45, h45, e45⟩ := id m45
  obtain ⟨f46, h46, e46⟩ := id m46
  obtain ⟨f47, h47, e47⟩ := id m47
  obtain ⟨f48, h48, e48⟩ := id m48
  obtain ⟨f49, h49, e49⟩ := id m49
  obtain ⟨pf, cf, h50, h51, hMR⟩ := id mD
  obtain ⟨f57, h57, e57⟩ := id m57
  obtain ⟨f58, h58, e58⟩ := id m58
  obtain ⟨f59, h59, e59⟩ := id m59
  obtain ⟨w0, w1, w2, w3, w4, w5, w6⟩ := id hW
  have hmb : 0 ≤ metN nm ca ns.toNat ∧ metN nm ca ns.toNat < 32 := by
    have h1 := metN_b nm ca ns.toNat (by omega)
    have h2 : (2 : Int) ^ ns.toNat ≤ 32 := by
      rcases (show ns.toNat = 0 ∨ ns.toNat = 1 ∨ ns.toNat = 2 ∨ ns.toNat = 3 ∨ ns.toNat = 4 ∨ ns.toNat = 5 by omega) with h | h | h | h | h | h <;> rw [h] <;> decide
    omega
  refine p_iload_n (pc := 0) C dX5_many_0 rfl ?_
  by_cases s_1_0 : w = 0
  · refine p_tin (pc := 1) (off := 35) (tgt := 36) C dX5_many_1 (by omega) (by omega) (by rw [s_1_0]; rfl) (by decide) ?_
    refine p_aload_n (pc := 36) C dX5_many_36 rfl ?_
    refine p_get (pc := 37) C fl_X5_71 dX5_many_37 ⟨by omega, by omega⟩ (by (repeat refine mg_n (by omega) ?_); first | assumption | exact mup_s _ _ _) (by rfl) ?_
    refine p_iret (pc := 40) C dX5_many_40 ?_
    first
      | (exfalso; omega)
      | (refine ⟨fun q hq => by (repeat (refine mg_n (by omega) ?_)); rfl, ?_⟩; skip; exact ⟨(sv (by unfold mnT; first | rw [if_pos (by omega)] | rw [if_neg (by omega), if_neg (by omega), if_neg (by omega), if_pos (by omega), (bits1 hmb).2.2.1] | rw [if_neg (by omega), if_pos (by omega)] | rw [if_neg (by omega), if_neg (by omega), if_pos (by omega)] | rw [if_neg (by omega), if_neg (by omega), if_neg (by omega), if_neg (by omega), if_pos (by omega)] | rw [if_neg (by omega), if_neg (by omega), if_neg (by omega), if_neg (by omega), if_neg (by omega)])), hV⟩)
  by_cases s_1_1 : w = 1
  · refine p_tin (pc := 1) (off := 40) (tgt := 41) C dX5_many_1 (by omega) (by omega) (by rw [s_1_1]; rfl) (by decide) ?_
    refine p_aload_n (pc := 41) C dX5_many_41 rfl ?_
    refine p_get (pc := 42) C fl_X5_74 dX5_many_42 ⟨by omega, by omega⟩ (by (repeat refine mg_n (by omega) ?_); first | assumption | exact mup_s _ _ _) (by rfl) ?_
    refine p_iret (pc := 45) C dX5_many_45 ?_
    first
      | (exfalso; omega)
      | (refine ⟨fun q hq => by (repeat (refine mg_n (by omega) ?_)); rfl, ?_⟩; skip; exact ⟨(sv (by unfold mnT; first | rw [if_pos (by omega)] | rw [if_neg (by omega), if_neg (by omega), if_neg (by omega), if_pos (by omega), (bits1 hmb).2.2.1] | rw [if_neg (by omega), if_pos (by omega)] | rw [if_neg (by omega), if_neg (by omega), if_pos (by omega)] | rw [if_neg (by omega), if_neg (by omega), if_neg (by omega), if_neg (by omega), if_pos (by omega)] | rw [if_neg (by omega), if_neg (by omega), if_neg (by omega), if_neg (by omega), if_neg (by omega)])), hV⟩)
  by_cases s_1_2 : w = 2
  · refine p_tin (pc := 1) (off := 45) (tgt := 46) C dX5_many_1 (by omega) (by omega) (by rw [s_1_2]; rfl) (by decide) ?_
    refine p_aload_n (pc := 46) C dX5_many_46 rfl ?_
    refine p_get (pc := 47) C fl_X5_107 dX5_many_47 ⟨by omega, by omega⟩ (by (repeat refine mg_n (by omega) ?_); first | assumption | exact mup_s _ _ _) (by rfl) ?_
    refine p_iret (pc := 50) C dX5_many_50 ?_
    first
      | (exfalso; omega)
      | (refine ⟨fun q hq => by (repeat (refine mg_n (by omega) ?_)); rfl, ?_⟩; skip; exact ⟨(sv (by unfold mnT; first | rw [if_pos (by omega)] | rw [if_neg (by omega), if_neg (by omega), if_neg (by omega), if_pos (by omega), (bits1 hmb).2.2.1] | rw [if_neg (by omega), if_pos (by omega)] | rw [if_neg (by omega), if_neg (by omega), if_pos (by omega)] | rw [if_neg (by omega), if_neg (by omega), if_neg (by omega), if_neg (by omega), if_pos (by omega)] | rw [if_neg (by omega), if_neg (by omega), if_neg (by omega), if_neg (by omega), if_neg (by omega)])), hV⟩)
  by_cases s_1_3 : w = 3
  · refine p_tin (pc := 1) (off := 50) (tgt := 51) C dX5_many_1 (by omega) (by omega) (by rw [s_1_3]; rfl) (by decide) ?_
    refine p_aload_n (pc := 51) C dX5_many_51 rfl ?_
    refine p_callVF (pc := 52) C ln_X5_189 dX5_many_52 (k_X5_metNow h0 (by omega) (by omega) mB h51 hMR w3) ⟨by omega, by omega⟩ (by (repeat refine mg_n (by omega) ?_); first | assumption | exact mup_s _ _ _) rfl rfl rfl rfl (Nat.le_of_ble_eq_true rfl) ?_
    refine p_callSF (pc := 55) C ln_X5_212 dX5_many_55 (k_X5_size hmb) rfl rfl (Nat.le_of_ble_eq_true rfl) ?_
    refine p_iret (pc := 58) C dX5_many_58 ?_
    first
      | (exfalso; omega)
      | (refine ⟨fun q hq => by (repeat (refine mg_n (by omega) ?_)); rfl, ?_⟩; skip; exact ⟨(sv (by unfold mnT; first | rw [if_pos (by omega)] | rw [if_neg (by omega), if_neg (by omega), if_neg (by omega), if_pos (by omega), (bits1 hmb).2.2.1] | rw [if_neg (by omega), if_pos (by omega)] | rw [if_neg (by omega), if_neg (by omega), if_pos (by omega)] | rw [if_neg (by omega), if_neg (by omega), if_neg (by omega), if_neg (by omega), if_pos (by omega)] | rw [if_neg (by omega), if_neg (by omega), if_neg (by omega), if_neg (by omega), if_neg (by omega)])), hV⟩)
  by_cases s_1_4 : w = 4
  · refine p_tin (pc := 1) (off := 58) (tgt := 59) C dX5_many_1 (by omega) (by omega) (by rw [s_1_4]; rfl) (by decide) ?_
    refine p_aload_n (pc := 59) C dX5_many_59 rfl ?_
    refine p_get (pc := 60) C fl_X5_110 dX5_many_60 ⟨by omega, by omega⟩ (by (repeat refine mg_n (by omega) ?_); first | assumption | exact mup_s _ _ _) (by rfl) ?_
    refine p_iret (pc := 63) C dX5_many_63 ?_
    first
      | (exfalso; omega)
      | (refine ⟨fun q hq => by (repeat (refine mg_n (by omega) ?_)); rfl, ?_⟩; skip; exact ⟨(sv (by unfold mnT; first | rw [if_pos (by omega)] | rw [if_neg (by omega), if_neg (by omega), if_neg (by omega), if_pos (by omega), (bits1 hmb).2.2.1] | rw [if_neg (by omega), if_pos (by omega)] | rw [if_neg (by omega), if_neg (by omega), if_pos (by omega)] | rw [if_neg (by omega), if_neg (by omega), if_neg (by omega), if_neg (by omega), if_pos (by omega)] | rw [if_neg (by omega), if_neg (by omega), if_neg (by omega), if_neg (by omega), if_neg (by omega)])), hV⟩)
  refine p_tout (pc := 1) (tgt := 64) C dX5_many_1 (by omega) (by decide) ?_
  refine p_bipush (pc := 64) C dX5_many_64 (by decide) ?_
  refine p_iret (pc := 66) C dX5_many_66 ?_
  first
    | (exfalso; omega)
    | (refine ⟨fun q hq => by (repeat (refine mg_n (by omega) ?_)); rfl, ?_⟩; skip; exact ⟨(sv (by unfold mnT; first | rw [if_pos (by omega)] | rw [if_neg (by omega), if_neg (by omega), if_neg (by omega), if_pos (by omega), (bits1 hmb).2.2.1] | rw [if_neg (by omega), if_pos (by omega)] | rw [if_neg (by omega), if_neg (by omega), if_pos (by omega)] | rw [if_neg (by omega), if_neg (by omega), if_neg (by omega), if_neg (by omega), if_pos (by omega)] | rw [if_neg (by omega), if_neg (by omega), if_neg (by omega), if_neg (by omega), if_neg (by omega)])), hV⟩)
