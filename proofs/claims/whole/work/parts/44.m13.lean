def dsI (x : Int) : Int := dg x 0 + dg x 1 + dg x 2 + dg x 3
/-- the digits' sum, by division -/
def duN (s x : Int) : Nat → Int
  | 0 => s
  | t + 1 => if x ≤ 0 then s else duN (s + x % 10) (x / 10) t
theorem duN_e {x : Int} (h0 : 0 ≤ x) (h1 : x < 10000) : duN 0 x 4 = dsI x := by
  have e1 : x / 10 / 10 = x / 100 := by omega
  have e2 : x / 10 / 10 / 10 = x / 1000 := by omega
  have e3 : x / 1000 % 10 = x / 1000 := by omega
  unfold dsI dg
  simp only [if_true, if_false, Int.reduceEq]
  simp only [duN]
  rw [e2, e1, e3]
  split
  · omega
  · split
    · omega
    · split
      · omega
      · split <;> omega

set_option maxHeartbeats 4000000 in
set_option maxRecDepth 100000 in
theorem k_X5_digitSum {K : KX} {d : Nat} {μ : Int → ME} {x : Int} (h0 : 0 ≤ x) (h1 : x < 10000) : Ct K (d) yX5_digitSum cX5_digitSum 3 (some .int) [vI x] μ (pF (vI (dsI x)) μ) := by
  refine Ct.of (by decide) (Nat.le_of_ble_eq_true rfl) (fun X C => ?_)
  rw [← duN_e h0 h1]
  have L : ∀ (t : Nat) (q s : Int), (0 ≤ q ∧ q < 10 ^ t) → (0 ≤ s ∧ s ≤ 100 - 10 * (t : Int)) → duN s q t = duN 0 x 4 → PW K X 3 (QM K X (pF (vI (duN 0 x 4)) μ)) 4 [(2, vI q), (1, vI s), (0, vI x)] [] μ := by
    intro t
    induction t with
    | zero =>
      intro q s g1 g3 g4
      have e : q = 0 := by have := g1.2; rw [Int.pow_zero] at this; omega
      subst e
      rw [duN] at g4
      refine p_iload_n (pc := 4) C dX5_digitSum_4 rfl ?_
      refine p_if_le (pc := 5) (tgt := 23) C dX5_digitSum_5 (by decide) (fun c_5 => ?_) (fun h => by exfalso; omega)
      refine p_iload_n (pc := 23) C dX5_digitSum_23 rfl ?_
      refine p_iret (pc := 24) C dX5_digitSum_24 ?_
      exact ⟨sv g4, rfl⟩
    | succ t ih =>
      intro q s g1 g3 g4
      rw [duN] at g4
      have hp : (10 : Int) ^ (t + 1) = 10 * 10 ^ t := by rw [Int.pow_succ]; omega
      have hm := Int.emod_lt_of_pos q (show (0 : Int) < 10 by omega)
      have hm2 := Int.emod_nonneg q (show (10 : Int) ≠ 0 by omega)
      have hq : q / 10 < 10 ^ t := by rw [hp] at g1; generalize (10 : Int) ^ t = z at g1 ⊢; omega
      have hq0 : 0 ≤ q / 10 := by omega
      refine p_iload_n (pc := 4) C dX5_digitSum_4 rfl ?_
      refine p_if_le (pc := 5) (tgt := 23) C dX5_digitSum_5 (by decide) (fun c_5 => ?_) (fun c_5 => ?_)
      · refine p_iload_n (pc := 23) C dX5_digitSum_23 rfl ?_
        refine p_iret (pc := 24) C dX5_digitSum_24 ?_
        exact ⟨sv (by rw [if_pos (by omega)] at g4; exact g4), rfl⟩
      · refine p_iload_n (pc := 8) C dX5_digitSum_8 rfl ?_
        refine p_iload_n (pc := 9) C dX5_digitSum_9 rfl ?_
        refine p_bipush (pc := 10) C dX5_digitSum_10 (by decide) ?_
        refine p_irem (pc := 12) C dX5_digitSum_12 (by omega) (by omega) ?_
        refine p_iadd (pc := 13) C dX5_digitSum_13 ⟨by omega, by omega⟩ ?_
        refine p_istore_n (pc := 14) (ls' := [(1, _), (2, _), (0, _)]) C dX5_digitSum_14 (by decide) rfl ?_
        refine p_iload_n (pc := 15) C dX5_digitSum_15 rfl ?_
        refine p_bipush (pc := 16) C dX5_digitSum_16 (by decide) ?_
        refine p_idiv (pc := 18) C dX5_digitSum_18 (by omega) (by omega) ?_
        refine p_istore_n (pc := 19) (ls' := [(2, _), (1, _), (0, _)]) C dX5_digitSum_19 (by decide) rfl ?_
        refine p_goto (pc := 20) (tgt := 4) C dX5_digitSum_20 (by decide) ?_
        rw [if_neg (by omega)] at g4
        exact ih (q / 10) (s + q % 10) ⟨hq0, hq⟩ (by push_cast at g3; omega) g4
  refine p_iconst (pc := 0) C dX5_digitSum_0 (by decide) ?_
  refine p_istore_n (pc := 1) (ls' := [(1, _), (0, _)]) C dX5_digitSum_1 (by decide) rfl ?_
  refine p_iload_n (pc := 2) C dX5_digitSum_2 rfl ?_
  refine p_istore_n (pc := 3) (ls' := [(2, _), (1, _), (0, _)]) C dX5_digitSum_3 (by decide) rfl ?_
  exact L 4 x 0 ⟨h0, by show x < 10000; omega⟩ (by omega) rfl

def rM (S : SS) (l m : Int) (f : Int → Int) : Prop := match S with
  | none => l = -9
  | some q => l = q.1 ∧ m = q.2.1 ∧ 0 ≤ q.1 ∧ ∀ j, 0 ≤ j → j < 4 → f j = dg q.2.2 j
def MT (fl tr np ns day at_ rP rS lp lw lf nr : Int) (S0 : DS) (S : SS) (μ ν : Int → ME) : Prop :=
  (∃ sL sF : Int, ∃ f : Int → Int, ν 42 = oM fl tr np ns day at_ rP rS lp lw lf sL sF nr ∧ ν 56 = mA 4 f ∧ rM S sL sF f) ∧ (∃ p c : Int → Int, ν 54 = mA 5 p ∧ ν 55 = mA 20 c ∧ MR ns S0 p c) ∧ (∃ p c : Int → Int, ν 50 = mA 5 p ∧ ν 51 = mA 20 c ∧ MR ns S0 p c) ∧ (∀ x, x ≠ 42 → x ≠ 50 → x ≠ 51 → x ≠ 54 → x ≠ 55 → x ≠ 56 → ν x = μ x)
theorem MB_t {rg kd nm sg : Int → Int} {np ns : Int} {μ ν : Int → ME} (h : MB rg kd nm sg np ns μ) (ho : ∀ x, x ≠ 42 → x ≠ 50 → x ≠ 51 → x ≠ 54 → x ≠ 55 → x ≠ 56 → ν x = μ x) : MB rg kd nm sg np ns ν := by
  unfold MB
  rw [ho 46 (by omega) (by omega) (by omega) (by omega) (by omega) (by omega), ho 47 (by omega) (by omega) (by omega) (by omega) (by omega) (by omega), ho 48 (by omega) (by omega) (by omega) (by omega) (by omega) (by omega), ho 49 (by omega) (by omega) (by omega) (by omega) (by omega) (by omega)]
  exact h
theorem MB_51 {rg kd nm sg : Int → Int} {np ns : Int} {μ : Int → ME} (h : MB rg kd nm sg np ns μ) (o : ME) : MB rg kd nm sg np ns (mup μ 51 o) := by
  obtain ⟨⟨f1, a1, b1⟩, ⟨f2, a2, b2⟩, ⟨f3, a3, b3⟩, ⟨f4, a4, b4⟩⟩ := h
  exact ⟨⟨f1, mg_n (by omega) a1, b1⟩, ⟨f2, mg_n (by omega) a2, b2⟩, ⟨f3, mg_n (by omega) a3, b3⟩, ⟨f4, mg_n (by omega) a4, b4⟩⟩
theorem dg_d {x : Int} (h0 : 0 ≤ x) (h1 : x < 10000) : dg x 3 = x % 10 ∧ dg x 2 = x / 10 % 10 ∧ dg x 1 = x / 10 / 10 % 10 ∧ dg x 0 = x / 10 / 10 / 10 % 10 := by
  unfold dg
  simp only [if_true, if_false, Int.reduceEq]
  refine ⟨trivial, trivial, by omega, by omega⟩
theorem MR_dg {ns : Int} {pt : Int → Int} {ca : Int → Int → Int} {p1 c1 : Int → Int} {k x : Int} (h : MR ns (pt, ca, 0, 0, -9) p1 c1) (h0 : 0 ≤ x) (h1 : x < 10000) : MR ns (pt, cup ca k (dg x), 0, 0, -9) p1 (fup (fup (fup (fup c1 (4 * k + 3) (x % 10)) (4 * k + 2) (x / 10 % 10)) (4 * k + 1) (x / 10 / 10 % 10)) (4 * k + 0) (x / 10 / 10 / 10 % 10)) := fun j j0 j1 => by
  obtain ⟨a1, a2⟩ := h j j0 j1
  obtain ⟨d3, d2, d1, d0⟩ := dg_d h0 h1
  refine ⟨a1, fun g g0 g1 => ?_⟩
  dsimp only at *
  by_cases e : j = k
  · subst e
    rw [cup_s]
    rcases (show g = 0 ∨ g = 1 ∨ g = 2 ∨ g = 3 by omega) with rfl | rfl | rfl | rfl
    · rw [fup_s, d0]
    · rw [fup_n _ _ _ (by omega), fup_s, d1]
    · rw [fup_n _ _ _ (by omega), fup_n _ _ _ (by omega), fup_s, d2]
    · rw [fup_n _ _ _ (by omega), fup_n _ _ _ (by omega), fup_n _ _ _ (by omega), fup_s, d3]
  · rw [cup_n _ _ e, fup_n _ _ _ (by omega), fup_n _ _ _ (by omega), fup_n _ _ _ (by omega), fup_n _ _ _ (by omega)]; exact a2 g g0 g1
theorem WS_dg {np ns : Int} {pt : Int → Int} {ca : Int → Int → Int} {k x : Int} (h : WS np ns (pt, ca, 0, 0, -9)) (h0 : 0 ≤ x) (h1 : x < 10000) : WS np ns (pt, cup ca k (dg x), 0, 0, -9) := fun j j0 j1 => by
  obtain ⟨a1, a2⟩ := h j j0 j1
  refine ⟨a1, ?_⟩
  dsimp only at *
  by_cases e : j = k
  · subst e; rw [cup_s]; exact dg_b h0 h1
  · rw [cup_n _ _ e]; exact a2
theorem wst_n {nm r : Int} {S : SS} {x l m : Int} {f : Int → Int} (hS : rM S l m f) (hc : ¬ (l = -9 ∨ wor (los (dg x) nm r) < l ∨ (wor (los (dg x) nm r) = l ∧ m < wor (dg x) - wor (los (dg x) nm r)))) : wst nm r S x = S := by
  unfold wst
  match S, hS with
  | none, hS => exact absurd (Or.inl hS) hc
  | some q, hS =>
    obtain ⟨e1, e2, e3, -⟩ := hS
    dsimp only
    rw [if_neg (by rw [← e1, ← e2]; exact fun z => hc (Or.inr z))]
theorem wst_y {nm r : Int} {S : SS} {x l m : Int} {f : Int → Int} (hS : rM S l m f) (hc : l = -9 ∨ wor (los (dg x) nm r) < l ∨ (wor (los (dg x) nm r) = l ∧ m < wor (dg x) - wor (los (dg x) nm r))) : wst nm r S x = some (wor (los (dg x) nm r), wor (dg x) - wor (los (dg x) nm r), x) := by
  unfold wst
  match S, hS with
  | none, hS => rfl
  | some q, hS =>
    obtain ⟨e1, e2, e3, -⟩ := hS
    dsimp only
    rw [if_pos (by rw [← e1, ← e2]; rcases hc with h | h; (exfalso; omega); exact h)]

set_option maxHeartbeats 4000000 in
set_option maxRecDepth 100000 in
theorem k_X5_tryStow {K : KX} {d : Nat} {μ : Int → ME} {k n x : Int} {pt : Int → Int} {ca : Int → Int → Int} {S : SS} {μ0 : Int → ME} {fl tr np ns day at_ rP rS lp lw lf nr : Int} {rg kd nm sg : Int → Int} (hT : MT fl tr np ns day at_ rP rS lp lw lf nr (pt, ca, 0, 0, -9) S μ0 μ) (hnp : np ≤ 6) (hns : 0 ≤ ns ∧ ns ≤ 5) (hB : MB rg kd nm sg np ns μ0) (hk : 0 ≤ k ∧ k < ns) (hW : WS np ns (pt, ca, 0, 0, -9)) (hN : WN ns kd nm sg) (hn : 0 ≤ n ∧ n ≤ 30) (h0 : 0 ≤ x) (h1 : x < 10000) : Ct K (d + 4) yX5_tryStow cX5_tryStow 9 none [vR 42, vI k, vI n, vI x] μ (pV (fun μ' => MT fl tr np ns day at_ rP rS lp lw lf nr (pt, ca, 0, 0, -9) (wst (nm k) (rdN rg np (brg (kd k) (sg k)) (pt k) n.toNat) S x) μ0 μ')) := by
  refine Ct.of (by decide) (Nat.le_of_ble_eq_true rfl) (fun X C => ?_)
  obtain ⟨⟨sL, sF, f, u0, u56, hrM⟩, ⟨p4, c4, u54, u55, uK⟩, ⟨p1, c1, u50, u51, uR⟩, uo⟩ := id hT
  refine p_iload_n (pc := 0) C dX5_tryStow_0 rfl ?_
  refine p_istore (pc := 1) (ls' := [(4, _), (0, _), (1, _), (2, _), (3, _)]) C dX5_tryStow_1 (by decide) rfl ?_
  refine p_iconst (pc := 3) C dX5_tryStow_3 (by decide) ?_
  refine p_istore (pc := 4) (ls' := [(5, _), (4, _), (0, _), (1, _), (2, _), (3, _)]) C dX5_tryStow_4 (by decide) rfl ?_
  refine p_iload (pc := 6) C dX5_tryStow_6 rfl ?_
  refine p_if_lt (pc := 8) (tgt := 40) C dX5_tryStow_8 (by decide) (fun h => absurd h (by decide)) (fun c_8 => ?_)
  refine p_aload_n (pc := 11) C dX5_tryStow_11 rfl ?_
  refine p_get (pc := 12) C fl_X5_34 dX5_tryStow_12 ⟨by omega, by omega⟩ (by (repeat refine mg_n (by omega) ?_); first | assumption | exact mup_s _ _ _) (by rfl) ?_
  refine p_iconst (pc := 15) C dX5_tryStow_15 (by decide) ?_
  refine p_iload_n (pc := 16) C dX5_tryStow_16 rfl ?_
  refine p_imul (pc := 17) C dX5_tryStow_17 ⟨by omega, by omega⟩ ?_
  refine p_iload (pc := 18) C dX5_tryStow_18 rfl ?_
  refine p_iadd (pc := 20) C dX5_tryStow_20 ⟨by omega, by omega⟩ ?_
  refine p_iload (pc := 21) C dX5_tryStow_21 rfl ?_
  refine p_bipush (pc := 23) C dX5_tryStow_23 (by decide) ?_
  refine p_irem (pc := 25) C dX5_tryStow_25 (by omega) (by omega) ?_
  refine p_iast (pc := 26) C dX5_tryStow_26 ⟨by omega, by omega⟩ (by (repeat refine mg_n (by omega) ?_); first | assumption | exact mup_s _ _ _) (by omega) ?_
  try refine p_mem (mup_mup _ _ _ _) ?_
  refine p_iload (pc := 27) C dX5_tryStow_27 rfl ?_
  refine p_bipush (pc := 29) C dX5_tryStow_29 (by decide) ?_
  refine p_idiv (pc := 31) C dX5_tryStow_31 (by omega) (by omega) ?_
  refine p_istore (pc := 32) (ls' := [(4, _), (5, _), (0, _), (1, _), (2, _), (3, _)]) C dX5_tryStow_32 (by decide) rfl ?_
  refine p_iincC (pc := 34) (w := 2) (ls' := [(5, _), (4, _), (0, _), (1, _), (2, _), (3, _)]) C dX5_tryStow_34 (by decide) rfl (by decide) (by decide) rfl ?_
  refine p_goto (pc := 37) (tgt := 6) C dX5_tryStow_37 (by decide) ?_
  refine p_iload (pc := 6) C dX5_tryStow_6 rfl ?_
  refine p_if_lt (pc := 8) (tgt := 40) C dX5_tryStow_8 (by decide) (fun h => absurd h (by decide)) (fun c_8 => ?_)
  refine p_aload_n (pc := 11) C dX5_tryStow_11 rfl ?_
  refine p_get (pc := 12) C fl_X5_34 dX5_tryStow_12 ⟨by omega, by omega⟩ (by (repeat refine mg_n (by omega) ?_); first | assumption | exact mup_s _ _ _) (by rfl) ?_
  refine p_iconst (pc := 15) C dX5_tryStow_15 (by decide) ?_
  refine p_iload_n (pc := 16) C dX5_tryStow_16 rfl ?_
  refine p_imul (pc := 17) C dX5_tryStow_17 ⟨by omega, by omega⟩ ?_
  refine p_iload (pc := 18) C dX5_tryStow_18 rfl ?_
  refine p_iadd (pc := 20) C dX5_tryStow_20 ⟨by omega, by omega⟩ ?_
  refine p_iload (pc := 21) C dX5_tryStow_21 rfl ?_
  refine p_bipush (pc := 23) C dX5_tryStow_23 (by decide) ?_
  refine p_irem (pc := 25) C dX5_tryStow_25 (by omega) (by omega) ?_
  refine p_iast (pc := 26) C dX5_tryStow_26 ⟨by omega, by omega⟩ (by (repeat refine mg_n (by omega) ?_); first | assumption | exact mup_s _ _ _) (by omega) ?_
  try refine p_mem (mup_mup _ _ _ _) ?_
  refine p_iload (pc := 27) C dX5_tryStow_27 rfl ?_
  refine p_bipush (pc := 29) C dX5_tryStow_29 (by decide) ?_
  refine p_idiv (pc := 31) C dX5_tryStow_31 (by omega) (by omega) ?_
  refine p_istore (pc := 32) (ls' := [(4, _), (5, _), (0, _), (1, _), (2, _), (3, _)]) C dX5_tryStow_32 (by decide) rfl ?_
  refine p_iincC (pc := 34) (w := 1) (ls' := [(5, _), (4, _), (0, _), (1, _), (2, _), (3, _)]) C dX5_tryStow_34 (by decide) rfl (by decide) (by decide) rfl ?_
  refine p_goto (pc := 37) (tgt := 6) C dX5_tryStow_37 (by decide) ?_
  refine p_iload (pc := 6) C dX5_tryStow_6 rfl ?_
  refine p_if_lt (pc := 8) (tgt := 40) C dX5_tryStow_8 (by decide) (fun h => absurd h (by decide)) (fun c_8 => ?_)
  refine p_aload_n (pc := 11) C dX5_tryStow_11 rfl ?_
  refine p_get (pc := 12) C fl_X5_34 dX5_tryStow_12 ⟨by omega, by omega⟩ (by (repeat refine mg_n (by omega) ?_); first | assumption | exact mup_s _ _ _) (by rfl) ?_
  refine p_iconst (pc := 15) C dX5_tryStow_15 (by decide) ?_
  refine p_iload_n (pc := 16) C dX5_tryStow_16 rfl ?_
  refine p_imul (pc := 17) C dX5_tryStow_17 ⟨by omega, by omega⟩ ?_
  refine p_iload (pc := 18) C dX5_tryStow_18 rfl ?_
  refine p_iadd (pc := 20) C dX5_tryStow_20 ⟨by omega, by omega⟩ ?_
  refine p_iload (pc := 21) C dX5_tryStow_21 rfl ?_
  refine p_bipush (pc := 23) C dX5_tryStow_23 (by decide) ?_
  refine p_irem (pc := 25) C dX5_tryStow_25 (by omega) (by omega) ?_
  refine p_iast (pc := 26) C dX5_tryStow_26 ⟨by omega, by omega⟩ (by (repeat refine mg_n (by omega) ?_); first | assumption | exact mup_s _ _ _) (by omega) ?_
  try refine p_mem (mup_mup _ _ _ _) ?_
  refine p_iload (pc := 27) C dX5_tryStow_27 rfl ?_
  refine p_bipush (pc := 29) C dX5_tryStow_29 (by decide) ?_
  refine p_idiv (pc := 31) C dX5_tryStow_31 (by omega) (by omega) ?_
  refine p_istore (pc := 32) (ls' := [(4, _), (5, _), (0, _), (1, _), (2, _), (3, _)]) C dX5_tryStow_32 (by decide) rfl ?_
  refine p_iincC (pc := 34) (w := 0) (ls' := [(5, _), (4, _), (0, _), (1, _), (2, _), (3, _)]) C dX5_tryStow_34 (by decide) rfl (by decide) (by decide) rfl ?_
  refine p_goto (pc := 37) (tgt := 6) C dX5_tryStow_37 (by decide) ?_
  refine p_iload (pc := 6) C dX5_tryStow_6 rfl ?_
  refine p_if_lt (pc := 8) (tgt := 40) C dX5_tryStow_8 (by decide) (fun h => absurd h (by decide)) (fun c_8 => ?_)
  refine p_aload_n (pc := 11) C dX5_tryStow_11 rfl ?_
  refine p_get (pc := 12) C fl_X5_34 dX5_tryStow_12 ⟨by omega, by omega⟩ (by (repeat refine mg_n (by omega) ?_); first | assumption | exact mup_s _ _ _) (by rfl) ?_
  refine p_iconst (pc := 15) C dX5_tryStow_15 (by decide) ?_
  refine p_iload_n (pc := 16) C dX5_tryStow_16 rfl ?_
  refine p_imul (pc := 17) C dX5_tryStow_17 ⟨by omega, by omega⟩ ?_
  refine p_iload (pc := 18) C dX5_tryStow_18 rfl ?_
  refine p_iadd (pc := 20) C dX5_tryStow_20 ⟨by omega, by omega⟩ ?_
  refine p_iload (pc := 21) C dX5_tryStow_21 rfl ?_
  refine p_bipush (pc := 23) C dX5_tryStow_23 (by decide) ?_
  refine p_irem (pc := 25) C dX5_tryStow_25 (by omega) (by omega) ?_
  refine p_iast (pc := 26) C dX5_tryStow_26 ⟨by omega, by omega⟩ (by (repeat refine mg_n (by omega) ?_); first | assumption | exact mup_s _ _ _) (by omega) ?_
  try refine p_mem (mup_mup _ _ _ _) ?_
  refine p_iload (pc := 27) C dX5_tryStow_27 rfl ?_
  refine p_bipush (pc := 29) C dX5_tryStow_29 (by decide) ?_
  refine p_idiv (pc := 31) C dX5_tryStow_31 (by omega) (by omega) ?_
  refine p_istore (pc := 32) (ls' := [(4, _), (5, _), (0, _), (1, _), (2, _), (3, _)]) C dX5_tryStow_32 (by decide) rfl ?_
  refine p_iincC (pc := 34) (w := -1) (ls' := [(5, _), (4, _), (0, _), (1, _), (2, _), (3, _)]) C dX5_tryStow_34 (by decide) rfl (by decide) (by decide) rfl ?_
  refine p_goto (pc := 37) (tgt := 6) C dX5_tryStow_37 (by decide) ?_
  refine p_iload (pc := 6) C dX5_tryStow_6 rfl ?_
  refine p_if_lt (pc := 8) (tgt := 40) C dX5_tryStow_8 (by decide) (fun c_8 => ?_) (fun h => absurd h (by decide))
  refine p_aload_n (pc := 40) C dX5_tryStow_40 rfl ?_
  refine p_iload_n (pc := 41) C dX5_tryStow_41 rfl ?_
  refine p_iload_n (pc := 42) C dX5_tryStow_42 rfl ?_
  refine p_callVI (pc := 43) C ln_X5_193 dX5_tryStow_43 (k_X5_losesIn (S := (pt, cup ca k (dg x), 0, 0, -9)) (by (repeat refine mg_n (by omega) ?_); first | assumption | exact mup_s _ _ _) hnp hns (MB_51 (MB_t hB uo) _) hk (mup_s _ _ _) (by (repeat refine mg_n (by omega) ?_); first | assumption | exact mup_s _ _ _) (MR_dg uR h0 h1) (WS_dg hW h0 h1) hN (by omega) (by show (0 : Int) ≤ 0 ∧ (0 : Int) ≤ 1000; omega)) ⟨by omega, by omega⟩ (by (repeat refine mg_n (by omega) ?_); first | assumption | exact mup_s _ _ _) rfl rfl rfl rfl (Nat.le_of_ble_eq_true rfl) (fun z μ' hpost => ?_)
  obtain ⟨hz, p2, c2, rfl, hmr⟩ := hpost
  have hcl := it_cl (np := np) (rg := rg) hN hk.1 hk.2 n.toNat (pt, cup ca k (dg x), 0, 0, -9) (WS_dg hW h0 h1)
  dsimp only at hcl
  rw [cup_s] at hcl
  have hz2 : z = wor (los (dg x) (nm k) (rdN rg np (brg (kd k) (sg k)) (pt k) n.toNat)) := by rw [hz, hcl.2]; show 0 + _ - 0 = _; omega
  have hb4 := (dg_b h0 h1).le (show (9 : Int) ≤ 100 by omega)
  have hwl := wor_los (r := (rdN rg np (brg (kd k) (sg k)) (pt k) n.toNat)) hb4 (hN k hk.1 hk.2).2.1
  have hsl : ∀ g, 0 ≤ g → g < 4 → (fun g => c2 (4 * k + g)) g = dg x g - los (dg x) (nm k) (rdN rg np (brg (kd k) (sg k)) (pt k) n.toNat) g := fun g g0 g1 => ((hmr k hk.1 hk.2).2 g g0 g1).trans (hcl.1 g g0 g1)
  have hlr := fun g g0 g1 => los_r (r := (rdN rg np (brg (kd k) (sg k)) (pt k) n.toNat)) hb4 (hN k hk.1 hk.2).2.1 (j := g) g0 g1
  have hbs : bd4 (fun g => c2 (4 * k + g)) 100 := bd4_c hsl (by
    have l0 := hlr 0 (by omega) (by omega)
    have l1 := hlr 1 (by omega) (by omega)
    have l2 := hlr 2 (by omega) (by omega)
    have l3 := hlr 3 (by omega) (by omega)
    obtain ⟨⟨b0, b1⟩, ⟨b2, b3⟩, ⟨b4, b5⟩, ⟨b6, b7⟩⟩ := hb4
    unfold bd4; dsimp only; omega)
  have hwo : wor (fun g => c2 (4 * k + g)) = wor (dg x) - wor (los (dg x) (nm k) (rdN rg np (brg (kd k) (sg k)) (pt k) n.toNat)) := by
    rw [wor_c hsl]; unfold wor; dsimp only; omega
  subst hz2
  refine p_istore (pc := 46) (ls' := [(5, _), (4, _), (0, _), (1, _), (2, _), (3, _)]) C dX5_tryStow_46 (by decide) rfl ?_
  refine p_aload_n (pc := 48) C dX5_tryStow_48 rfl ?_
  refine p_iload_n (pc := 49) C dX5_tryStow_49 rfl ?_
  refine p_callVF (pc := 50) C ln_X5_136 dX5_tryStow_50 (k_X5_worthOf (by (repeat refine mg_n (by omega) ?_); first | assumption | exact mup_s _ _ _) hnp hns hk (by (repeat refine mg_n (by omega) ?_); first | assumption | exact mup_s _ _ _) hbs) ⟨by omega, by omega⟩ (by (repeat refine mg_n (by omega) ?_); first | assumption | exact mup_s _ _ _) rfl rfl rfl rfl (Nat.le_of_ble_eq_true rfl) ?_
  refine p_top hwo ?_
  refine p_istore (pc := 53) (ls' := [(6, _), (5, _), (4, _), (0, _), (1, _), (2, _), (3, _)]) C dX5_tryStow_53 (by decide) rfl ?_
  refine p_aload_n (pc := 55) C dX5_tryStow_55 rfl ?_
  refine p_get (pc := 56) C fl_X5_196 dX5_tryStow_56 ⟨by omega, by omega⟩ (by (repeat refine mg_n (by omega) ?_); first | assumption | exact mup_s _ _ _) (by rfl) ?_
  refine p_bipush (pc := 59) C dX5_tryStow_59 (by decide) ?_
  refine p_icmp_eq (pc := 61) (tgt := 91) C dX5_tryStow_61 (by decide) (fun c_61 => ?_) (fun c_61 => ?_)
  · refine p_aload_n (pc := 91) C dX5_tryStow_91 rfl ?_
    refine p_iload (pc := 92) C dX5_tryStow_92 rfl ?_
    refine p_putL (pc := 94) (fs' := [_, _, _, _, _, _, _, _, _, _, _, _, _, _, _, _, _, _, _, _, _, _, _, _, _, _, _, _, _, _, _]) C fp_X5_196 dX5_tryStow_94 ⟨by omega, by omega⟩ (by (repeat refine mg_n (by omega) ?_); first | assumption | exact mup_s _ _ _) (by exact Nat.le_of_ble_eq_true rfl) (by rfl) ?_
    try refine p_mem (mup_mup _ _ _ _) ?_
    refine p_aload_n (pc := 97) C dX5_tryStow_97 rfl ?_
    refine p_iload (pc := 98) C dX5_tryStow_98 rfl ?_
    refine p_putL (pc := 100) (fs' := [_, _, _, _, _, _, _, _, _, _, _, _, _, _, _, _, _, _, _, _, _, _, _, _, _, _, _, _, _, _, _]) C fp_X5_199 dX5_tryStow_100 ⟨by omega, by omega⟩ (by (repeat refine mg_n (by omega) ?_); first | assumption | exact mup_s _ _ _) (by exact Nat.le_of_ble_eq_true rfl) (by rfl) ?_
    try refine p_mem (mup_mup _ _ _ _) ?_
    refine p_iconst (pc := 103) C dX5_tryStow_103 (by decide) ?_
    refine p_istore (pc := 104) (ls' := [(7, _), (6, _), (5, _), (4, _), (0, _), (1, _), (2, _), (3, _)]) C dX5_tryStow_104 (by decide) rfl ?_
    refine p_iload_n (pc := 106) C dX5_tryStow_106 rfl ?_
    refine p_istore (pc := 107) (ls' := [(8, _), (7, _), (6, _), (5, _), (4, _), (0, _), (1, _), (2, _), (3, _)]) C dX5_tryStow_107 (by decide) rfl ?_
    refine p_iload (pc := 109) C dX5_tryStow_109 rfl ?_
    refine p_if_lt (pc := 111) (tgt := 139) C dX5_tryStow_111 (by decide) (fun h => absurd h (by decide)) (fun c_111 => ?_)
    refine p_aload_n (pc := 114) C dX5_tryStow_114 rfl ?_
    refine p_get (pc := 115) C fl_X5_49 dX5_tryStow_115 ⟨by omega, by omega⟩ (by (repeat refine mg_n (by omega) ?_); first | assumption | exact mup_s _ _ _) (by rfl) ?_
    refine p_iload (pc := 118) C dX5_tryStow_118 rfl ?_
    refine p_iload (pc := 120) C dX5_tryStow_120 rfl ?_
    refine p_bipush (pc := 122) C dX5_tryStow_122 (by decide) ?_
    refine p_irem (pc := 124) C dX5_tryStow_124 (by omega) (by omega) ?_
    refine p_iast (pc := 125) C dX5_tryStow_125 ⟨by omega, by omega⟩ (by (repeat refine mg_n (by omega) ?_); first | assumption | exact mup_s _ _ _) (by omega) ?_
    try refine p_mem (mup_mup _ _ _ _) ?_
    refine p_iload (pc := 126) C dX5_tryStow_126 rfl ?_
    refine p_bipush (pc := 128) C dX5_tryStow_128 (by decide) ?_
    refine p_idiv (pc := 130) C dX5_tryStow_130 (by omega) (by omega) ?_
    refine p_istore (pc := 131) (ls' := [(8, _), (7, _), (6, _), (5, _), (4, _), (0, _), (1, _), (2, _), (3, _)]) C dX5_tryStow_131 (by decide) rfl ?_
    refine p_iincC (pc := 133) (w := 2) (ls' := [(7, _), (8, _), (6, _), (5, _), (4, _), (0, _), (1, _), (2, _), (3, _)]) C dX5_tryStow_133 (by decide) rfl (by decide) (by decide) rfl ?_
    refine p_goto (pc := 136) (tgt := 109) C dX5_tryStow_136 (by decide) ?_
    refine p_iload (pc := 109) C dX5_tryStow_109 rfl ?_
    refine p_if_lt (pc := 111) (tgt := 139) C dX5_tryStow_111 (by decide) (fun h => absurd h (by decide)) (fun c_111 => ?_)
    refine p_aload_n (pc := 114) C dX5_tryStow_114 rfl ?_
    refine p_get (pc := 115) C fl_X5_49 dX5_tryStow_115 ⟨by omega, by omega⟩ (by (repeat refine mg_n (by omega) ?_); first | assumption | exact mup_s _ _ _) (by rfl) ?_
    refine p_iload (pc := 118) C dX5_tryStow_118 rfl ?_
    refine p_iload (pc := 120) C dX5_tryStow_120 rfl ?_
    refine p_bipush (pc := 122) C dX5_tryStow_122 (by decide) ?_
    refine p_irem (pc := 124) C dX5_tryStow_124 (by omega) (by omega) ?_
    refine p_iast (pc := 125) C dX5_tryStow_125 ⟨by omega, by omega⟩ (by (repeat refine mg_n (by omega) ?_); first | assumption | exact mup_s _ _ _) (by omega) ?_
    try refine p_mem (mup_mup _ _ _ _) ?_
    refine p_iload (pc := 126) C dX5_tryStow_126 rfl ?_
    refine p_bipush (pc := 128) C dX5_tryStow_128 (by decide) ?_
    refine p_idiv (pc := 130) C dX5_tryStow_130 (by omega) (by omega) ?_
    refine p_istore (pc := 131) (ls' := [(8, _), (7, _), (6, _), (5, _), (4, _), (0, _), (1, _), (2, _), (3, _)]) C dX5_tryStow_131 (by decide) rfl ?_
    refine p_iincC (pc := 133) (w := 1) (ls' := [(7, _), (8, _), (6, _), (5, _), (4, _), (0, _), (1, _), (2, _), (3, _)]) C dX5_tryStow_133 (by decide) rfl (by decide) (by decide) rfl ?_
    refine p_goto (pc := 136) (tgt := 109) C dX5_tryStow_136 (by decide) ?_
    refine p_iload (pc := 109) C dX5_tryStow_109 rfl ?_
    refine p_if_lt (pc := 111) (tgt := 139) C dX5_tryStow_111 (by decide) (fun h => absurd h (by decide)) (fun c_111 => ?_)
    refine p_aload_n (pc := 114) C dX5_tryStow_114 rfl ?_
    refine p_get (pc := 115) C fl_X5_49 dX5_tryStow_115 ⟨by omega, by omega⟩ (by (repeat refine mg_n (by omega) ?_); first | assumption | exact mup_s _ _ _) (by rfl) ?_
    refine p_iload (pc := 118) C dX5_tryStow_118 rfl ?_
    refine p_iload (pc := 120) C dX5_tryStow_120 rfl ?_
    refine p_bipush (pc := 122) C dX5_tryStow_122 (by decide) ?_
    refine p_irem (pc := 124) C dX5_tryStow_124 (by omega) (by omega) ?_
    refine p_iast (pc := 125) C dX5_tryStow_125 ⟨by omega, by omega⟩ (by (repeat refine mg_n (by omega) ?_); first | assumption | exact mup_s _ _ _) (by omega) ?_
    try refine p_mem (mup_mup _ _ _ _) ?_
    refine p_iload (pc := 126) C dX5_tryStow_126 rfl ?_
    refine p_bipush (pc := 128) C dX5_tryStow_128 (by decide) ?_
    refine p_idiv (pc := 130) C dX5_tryStow_130 (by omega) (by omega) ?_
    refine p_istore (pc := 131) (ls' := [(8, _), (7, _), (6, _), (5, _), (4, _), (0, _), (1, _), (2, _), (3, _)]) C dX5_tryStow_131 (by decide) rfl ?_
    refine p_iincC (pc := 133) (w := 0) (ls' := [(7, _), (8, _), (6, _), (5, _), (4, _), (0, _), (1, _), (2, _), (3, _)]) C dX5_tryStow_133 (by decide) rfl (by decide) (by decide) rfl ?_
    refine p_goto (pc := 136) (tgt := 109) C dX5_tryStow_136 (by decide) ?_
    refine p_iload (pc := 109) C dX5_tryStow_109 rfl ?_
    refine p_if_lt (pc := 111) (tgt := 139) C dX5_tryStow_111 (by decide) (fun h => absurd h (by decide)) (fun c_111 => ?_)
    refine p_aload_n (pc := 114) C dX5_tryStow_114 rfl ?_
    refine p_get (pc := 115) C fl_X5_49 dX5_tryStow_115 ⟨by omega, by omega⟩ (by (repeat refine mg_n (by omega) ?_); first | assumption | exact mup_s _ _ _) (by rfl) ?_
    refine p_iload (pc := 118) C dX5_tryStow_118 rfl ?_
    refine p_iload (pc := 120) C dX5_tryStow_120 rfl ?_
    refine p_bipush (pc := 122) C dX5_tryStow_122 (by decide) ?_
    refine p_irem (pc := 124) C dX5_tryStow_124 (by omega) (by omega) ?_
    refine p_iast (pc := 125) C dX5_tryStow_125 ⟨by omega, by omega⟩ (by (repeat refine mg_n (by omega) ?_); first | assumption | exact mup_s _ _ _) (by omega) ?_
    try refine p_mem (mup_mup _ _ _ _) ?_
    refine p_iload (pc := 126) C dX5_tryStow_126 rfl ?_
    refine p_bipush (pc := 128) C dX5_tryStow_128 (by decide) ?_
    refine p_idiv (pc := 130) C dX5_tryStow_130 (by omega) (by omega) ?_
    refine p_istore (pc := 131) (ls' := [(8, _), (7, _), (6, _), (5, _), (4, _), (0, _), (1, _), (2, _), (3, _)]) C dX5_tryStow_131 (by decide) rfl ?_
    refine p_iincC (pc := 133) (w := -1) (ls' := [(7, _), (8, _), (6, _), (5, _), (4, _), (0, _), (1, _), (2, _), (3, _)]) C dX5_tryStow_133 (by decide) rfl (by decide) (by decide) rfl ?_
    refine p_goto (pc := 136) (tgt := 109) C dX5_tryStow_136 (by decide) ?_
    refine p_iload (pc := 109) C dX5_tryStow_109 rfl ?_
    refine p_if_lt (pc := 111) (tgt := 139) C dX5_tryStow_111 (by decide) (fun c_111 => ?_) (fun h => absurd h (by decide))
    refine p_aload_n (pc := 139) C dX5_tryStow_139 rfl ?_
    refine p_callVV (pc := 140) C ln_X5_186 dX5_tryStow_140 (k_X5_putBack (by (repeat refine mg_n (by omega) ?_); first | assumption | exact mup_s _ _ _) hns (by (repeat refine mg_n (by omega) ?_); first | assumption | exact mup_s _ _ _) (by (repeat refine mg_n (by omega) ?_); first | assumption | exact mup_s _ _ _) (by (repeat refine mg_n (by omega) ?_); first | assumption | exact mup_s _ _ _) (by (repeat refine mg_n (by omega) ?_); first | assumption | exact mup_s _ _ _)) ⟨by omega, by omega⟩ (by (repeat refine mg_n (by omega) ?_); first | assumption | exact mup_s _ _ _) rfl rfl rfl rfl (Nat.le_of_ble_eq_true rfl) (fun μ' hpost => ?_)
    obtain ⟨x9, y9, rfl, hx9, hy9⟩ := hpost
    refine p_vret (pc := 143) C dX5_tryStow_143 ?_
    first
      | (rw [wst_y hrM (by omega)]; exact ⟨rfl, ⟨_, _, _, by (repeat (refine mg_n (by omega) ?_)); exact mup_s _ _ _, by (repeat (refine mg_n (by omega) ?_)); exact mup_s _ _ _, rfl, rfl, hwl.1, fun j j0 j1 => by obtain ⟨d3, d2, d1, d0⟩ := dg_d h0 h1; rcases (show j = 0 ∨ j = 1 ∨ j = 2 ∨ j = 3 by omega) with rfl | rfl | rfl | rfl; (rw [fup_s, d0]); (rw [fup_n _ _ _ (by omega), fup_s, d1]); (rw [fup_n _ _ _ (by omega), fup_n _ _ _ (by omega), fup_s, d2]); (rw [fup_n _ _ _ (by omega), fup_n _ _ _ (by omega), fup_n _ _ _ (by omega), fup_s, d3])⟩, ⟨p4, c4, by (repeat (refine mg_n (by omega) ?_)); exact u54, by (repeat (refine mg_n (by omega) ?_)); exact u55, uK⟩, ⟨x9, y9, mg_n (by omega) (mup_s _ _ _), mup_s _ _ _, MR_kp uK hx9 hy9⟩, fun z z0 z1 z2 z3 z4 z5 => by (repeat (refine mg_n (by assumption) ?_)); exact uo z z0 z1 z2 z3 z4 z5⟩)
      | (rw [wst_n hrM (by omega)]; exact ⟨rfl, ⟨sL, sF, f, by (repeat (refine mg_n (by omega) ?_)); exact u0, by (repeat (refine mg_n (by omega) ?_)); exact u56, hrM⟩, ⟨p4, c4, by (repeat (refine mg_n (by omega) ?_)); exact u54, by (repeat (refine mg_n (by omega) ?_)); exact u55, uK⟩, ⟨x9, y9, mg_n (by omega) (mup_s _ _ _), mup_s _ _ _, MR_kp uK hx9 hy9⟩, fun z z0 z1 z2 z3 z4 z5 => by (repeat (refine mg_n (by assumption) ?_)); exact uo z z0 z1 z2 z3 z4 z5⟩)
  · refine p_iload (pc := 64) C dX5_tryStow_64 rfl ?_
    refine p_aload_n (pc := 66) C dX5_tryStow_66 rfl ?_
    refine p_get (pc := 67) C fl_X5_196 dX5_tryStow_67 ⟨by omega, by omega⟩ (by (repeat refine mg_n (by omega) ?_); first | assumption | exact mup_s _ _ _) (by rfl) ?_
    refine p_icmp_lt (pc := 70) (tgt := 91) C dX5_tryStow_70 (by decide) (fun c_70 => ?_) (fun c_70 => ?_)
    · refine p_aload_n (pc := 91) C dX5_tryStow_91 rfl ?_
      refine p_iload (pc := 92) C dX5_tryStow_92 rfl ?_
      refine p_putL (pc := 94) (fs' := [_, _, _, _, _, _, _, _, _, _, _, _, _, _, _, _, _, _, _, _, _, _, _, _, _, _, _, _, _, _, _]) C fp_X5_196 dX5_tryStow_94 ⟨by omega, by omega⟩ (by (repeat refine mg_n (by omega) ?_); first | assumption | exact mup_s _ _ _) (by exact Nat.le_of_ble_eq_true rfl) (by rfl) ?_
      try refine p_mem (mup_mup _ _ _ _) ?_
      refine p_aload_n (pc := 97) C dX5_tryStow_97 rfl ?_
      refine p_iload (pc := 98) C dX5_tryStow_98 rfl ?_
      refine p_putL (pc := 100) (fs' := [_, _, _, _, _, _, _, _, _, _, _, _, _, _, _, _, _, _, _, _, _, _, _, _, _, _, _, _, _, _, _]) C fp_X5_199 dX5_tryStow_100 ⟨by omega, by omega⟩ (by (repeat refine mg_n (by omega) ?_); first | assumption | exact mup_s _ _ _) (by exact Nat.le_of_ble_eq_true rfl) (by rfl) ?_
      try refine p_mem (mup_mup _ _ _ _) ?_
      refine p_iconst (pc := 103) C dX5_tryStow_103 (by decide) ?_
      refine p_istore (pc := 104) (ls' := [(7, _), (6, _), (5, _), (4, _), (0, _), (1, _), (2, _), (3, _)]) C dX5_tryStow_104 (by decide) rfl ?_
      refine p_iload_n (pc := 106) C dX5_tryStow_106 rfl ?_
      refine p_istore (pc := 107) (ls' := [(8, _), (7, _), (6, _), (5, _), (4, _), (0, _), (1, _), (2, _), (3, _)]) C dX5_tryStow_107 (by decide) rfl ?_
      refine p_iload (pc := 109) C dX5_tryStow_109 rfl ?_
      refine p_if_lt (pc := 111) (tgt := 139) C dX5_tryStow_111 (by decide) (fun h => absurd h (by decide)) (fun c_111 => ?_)
      refine p_aload_n (pc := 114) C dX5_tryStow_114 rfl ?_
      refine p_get (pc := 115) C fl_X5_49 dX5_tryStow_115 ⟨by omega, by omega⟩ (by (repeat refine mg_n (by omega) ?_); first | assumption | exact mup_s _ _ _) (by rfl) ?_
      refine p_iload (pc := 118) C dX5_tryStow_118 rfl ?_
      refine p_iload (pc := 120) C dX5_tryStow_120 rfl ?_
      refine p_bipush (pc := 122) C dX5_tryStow_122 (by decide) ?_
      refine p_irem (pc := 124) C dX5_tryStow_124 (by omega) (by omega) ?_
      refine p_iast (pc := 125) C dX5_tryStow_125 ⟨by omega, by omega⟩ (by (repeat refine mg_n (by omega) ?_); first | assumption | exact mup_s _ _ _) (by omega) ?_
      try refine p_mem (mup_mup _ _ _ _) ?_
      refine p_iload (pc := 126) C dX5_tryStow_126 rfl ?_
      refine p_bipush (pc := 128) C dX5_tryStow_128 (by decide) ?_
      refine p_idiv (pc := 130) C dX5_tryStow_130 (by omega) (by omega) ?_
      refine p_istore (pc := 131) (ls' := [(8, _), (7, _), (6, _), (5, _), (4, _), (0, _), (1, _), (2, _), (3, _)]) C dX5_tryStow_131 (by decide) rfl ?_
      refine p_iincC (pc := 133) (w := 2) (ls' := [(7, _), (8, _), (6, _), (5, _), (4, _), (0, _), (1, _), (2, _), (3, _)]) C dX5_tryStow_133 (by decide) rfl (by decide) (by decide) rfl ?_
      refine p_goto (pc := 136) (tgt := 109) C dX5_tryStow_136 (by decide) ?_
      refine p_iload (pc := 109) C dX5_tryStow_109 rfl ?_
      refine p_if_lt (pc := 111) (tgt := 139) C dX5_tryStow_111 (by decide) (fun h => absurd h (by decide)) (fun c_111 => ?_)
      refine p_aload_n (pc := 114) C dX5_tryStow_114 rfl ?_
      refine p_get (pc := 115) C fl_X5_49 dX5_tryStow_115 ⟨by omega, by omega⟩ (by (repeat refine mg_n (by omega) ?_); first | assumption | exact mup_s _ _ _) (by rfl) ?_
      refine p_iload (pc := 118) C dX5_tryStow_118 rfl ?_
      refine p_iload (pc := 120) C dX5_tryStow_120 rfl ?_
      refine p_bipush (pc := 122) C dX5_tryStow_122 (by decide) ?_
      refine p_irem (pc := 124) C dX5_tryStow_124 (by omega) (by omega) ?_
      refine p_iast (pc := 125) C dX5_tryStow_125 ⟨by omega, by omega⟩ (by (repeat refine mg_n (by omega) ?_); first | assumption | exact mup_s _ _ _) (by omega) ?_
      try refine p_mem (mup_mup _ _ _ _) ?_
      refine p_iload (pc := 126) C dX5_tryStow_126 rfl ?_
      refine p_bipush (pc := 128) C dX5_tryStow_128 (by decide) ?_
      refine p_idiv (pc := 130) C dX5_tryStow_130 (by omega) (by omega) ?_
      refine p_istore (pc := 131) (ls' := [(8, _), (7, _), (6, _), (5, _), (4, _), (0, _), (1, _), (2, _), (3, _)]) C dX5_tryStow_131 (by decide) rfl ?_
      refine p_iincC (pc := 133) (w := 1) (ls' := [(7, _), (8, _), (6, _), (5, _), (4, _), (0, _), (1, _), (2, _), (3, _)]) C dX5_tryStow_133 (by decide) rfl (by decide) (by decide) rfl ?_
      refine p_goto (pc := 136) (tgt := 109) C dX5_tryStow_136 (by decide) ?_
      refine p_iload (pc := 109) C dX5_tryStow_109 rfl ?_
      refine p_if_lt (pc := 111) (tgt := 139) C dX5_tryStow_111 (by decide) (fun h => absurd h (by decide)) (fun c_111 => ?_)
      refine p_aload_n (pc := 114) C dX5_tryStow_114 rfl ?_
      refine p_get (pc := 115) C fl_X5_49 dX5_tryStow_115 ⟨by omega, by omega⟩ (by (repeat refine mg_n (by omega) ?_); first | assumption | exact mup_s _ _ _) (by rfl) ?_
      refine p_iload (pc := 118) C dX5_tryStow_118 rfl ?_
      refine p_iload (pc := 120) C dX5_tryStow_120 rfl ?_
      refine p_bipush (pc := 122) C dX5_tryStow_122 (by decide) ?_
      refine p_irem (pc := 124) C dX5_tryStow_124 (by omega) (by omega) ?_
      refine p_iast (pc := 125) C dX5_tryStow_125 ⟨by omega, by omega⟩ (by (repeat refine mg_n (by omega) ?_); first | assumption | exact mup_s _ _ _) (by omega) ?_
      try refine p_mem (mup_mup _ _ _ _) ?_
      refine p_iload (pc := 126) C dX5_tryStow_126 rfl ?_
      refine p_bipush (pc := 128) C dX5_tryStow_128 (by decide) ?_
      refine p_idiv (pc := 130) C dX5_tryStow_130 (by omega) (by omega) ?_
      refine p_istore (pc := 131) (ls' := [(8, _), (7, _), (6, _), (5, _), (4, _), (0, _), (1, _), (2, _), (3, _)]) C dX5_tryStow_131 (by decide) rfl ?_
      refine p_iincC (pc := 133) (w := 0) (ls' := [(7, _), (8, _), (6, _), (5, _), (4, _), (0, _), (1, _), (2, _), (3, _)]) C dX5_tryStow_133 (by decide) rfl (by decide) (by decide) rfl ?_
      refine p_goto (pc := 136) (tgt := 109) C dX5_tryStow_136 (by decide) ?_
      refine p_iload (pc := 109) C dX5_tryStow_109 rfl ?_
      refine p_if_lt (pc := 111) (tgt := 139) C dX5_tryStow_111 (by decide) (fun h => absurd h (by decide)) (fun c_111 => ?_)
      refine p_aload_n (pc := 114) C dX5_tryStow_114 rfl ?_
      refine p_get (pc := 115) C fl_X5_49 dX5_tryStow_115 ⟨by omega, by omega⟩ (by (repeat refine mg_n (by omega) ?_); first | assumption | exact mup_s _ _ _) (by rfl) ?_
      refine p_iload (pc := 118) C dX5_tryStow_118 rfl ?_
      refine p_iload (pc := 120) C dX5_tryStow_120 rfl ?_
      refine p_bipush (pc := 122) C dX5_tryStow_122 (by decide) ?_
      refine p_irem (pc := 124) C dX5_tryStow_124 (by omega) (by omega) ?_
      refine p_iast (pc := 125) C dX5_tryStow_125 ⟨by omega, by omega⟩ (by (repeat refine mg_n (by omega) ?_); first | assumption | exact mup_s _ _ _) (by omega) ?_
      try refine p_mem (mup_mup _ _ _ _) ?_
      refine p_iload (pc := 126) C dX5_tryStow_126 rfl ?_
      refine p_bipush (pc := 128) C dX5_tryStow_128 (by decide) ?_
      refine p_idiv (pc := 130) C dX5_tryStow_130 (by omega) (by omega) ?_
      refine p_istore (pc := 131) (ls' := [(8, _), (7, _), (6, _), (5, _), (4, _), (0, _), (1, _), (2, _), (3, _)]) C dX5_tryStow_131 (by decide) rfl ?_
      refine p_iincC (pc := 133) (w := -1) (ls' := [(7, _), (8, _), (6, _), (5, _), (4, _), (0, _), (1, _), (2, _), (3, _)]) C dX5_tryStow_133 (by decide) rfl (by decide) (by decide) rfl ?_
      refine p_goto (pc := 136) (tgt := 109) C dX5_tryStow_136 (by decide) ?_
      refine p_iload (pc := 109) C dX5_tryStow_109 rfl ?_
      refine p_if_lt (pc := 111) (tgt := 139) C dX5_tryStow_111 (by decide) (fun c_111 => ?_) (fun h => absurd h (by decide))
      refine p_aload_n (pc := 139) C dX5_tryStow_139 rfl ?_
      refine p_callVV (pc := 140) C ln_X5_186 dX5_tryStow_140 (k_X5_putBack (by (repeat refine mg_n (by omega) ?_); first | assumption | exact mup_s _ _ _) hns (by (repeat refine mg_n (by omega) ?_); first | assumption | exact mup_s _ _ _) (by (repeat refine mg_n (by omega) ?_); first | assumption | exact mup_s _ _ _) (by (repeat refine mg_n (by omega) ?_); first | assumption | exact mup_s _ _ _) (by (repeat refine mg_n (by omega) ?_); first | assumption | exact mup_s _ _ _)) ⟨by omega, by omega⟩ (by (repeat refine mg_n (by omega) ?_); first | assumption | exact mup_s _ _ _) rfl rfl rfl rfl (Nat.le_of_ble_eq_true rfl) (fun μ' hpost => ?_)
      obtain ⟨x9, y9, rfl, hx9, hy9⟩ := hpost
      refine p_vret (pc := 143) C dX5_tryStow_143 ?_
      first
        | (rw [wst_y hrM (by omega)]; exact ⟨rfl, ⟨_, _, _, by (repeat (refine mg_n (by omega) ?_)); exact mup_s _ _ _, by (repeat (refine mg_n (by omega) ?_)); exact mup_s _ _ _, rfl, rfl, hwl.1, fun j j0 j1 => by obtain ⟨d3, d2, d1, d0⟩ := dg_d h0 h1; rcases (show j = 0 ∨ j = 1 ∨ j = 2 ∨ j = 3 by omega) with rfl | rfl | rfl | rfl; (rw [fup_s, d0]); (rw [fup_n _ _ _ (by omega), fup_s, d1]); (rw [fup_n _ _ _ (by omega), fup_n _ _ _ (by omega), fup_s, d2]); (rw [fup_n _ _ _ (by omega), fup_n _ _ _ (by omega), fup_n _ _ _ (by omega), fup_s, d3])⟩, ⟨p4, c4, by (repeat (refine mg_n (by omega) ?_)); exact u54, by (repeat (refine mg_n (by omega) ?_)); exact u55, uK⟩, ⟨x9, y9, mg_n (by omega) (mup_s _ _ _), mup_s _ _ _, MR_kp uK hx9 hy9⟩, fun z z0 z1 z2 z3 z4 z5 => by (repeat (refine mg_n (by assumption) ?_)); exact uo z z0 z1 z2 z3 z4 z5⟩)
        | (rw [wst_n hrM (by omega)]; exact ⟨rfl, ⟨sL, sF, f, by (repeat (refine mg_n (by omega) ?_)); exact u0, by (repeat (refine mg_n (by omega) ?_)); exact u56, hrM⟩, ⟨p4, c4, by (repeat (refine mg_n (by omega) ?_)); exact u54, by (repeat (refine mg_n (by omega) ?_)); exact u55, uK⟩, ⟨x9, y9, mg_n (by omega) (mup_s _ _ _), mup_s _ _ _, MR_kp uK hx9 hy9⟩, fun z z0 z1 z2 z3 z4 z5 => by (repeat (refine mg_n (by assumption) ?_)); exact uo z z0 z1 z2 z3 z4 z5⟩)
    · refine p_iload (pc := 73) C dX5_tryStow_73 rfl ?_
      refine p_aload_n (pc := 75) C dX5_tryStow_75 rfl ?_
      refine p_get (pc := 76) C fl_X5_196 dX5_tryStow_76 ⟨by omega, by omega⟩ (by (repeat refine mg_n (by omega) ?_); first | assumption | exact mup_s _ _ _) (by rfl) ?_
      refine p_icmp_ne (pc := 79) (tgt := 139) C dX5_tryStow_79 (by decide) (fun c_79 => ?_) (fun c_79 => ?_)
      · refine p_aload_n (pc := 139) C dX5_tryStow_139 rfl ?_
        refine p_callVV (pc := 140) C ln_X5_186 dX5_tryStow_140 (k_X5_putBack (by (repeat refine mg_n (by omega) ?_); first | assumption | exact mup_s _ _ _) hns (by (repeat refine mg_n (by omega) ?_); first | assumption | exact mup_s _ _ _) (by (repeat refine mg_n (by omega) ?_); first | assumption | exact mup_s _ _ _) (by (repeat refine mg_n (by omega) ?_); first | assumption | exact mup_s _ _ _) (by (repeat refine mg_n (by omega) ?_); first | assumption | exact mup_s _ _ _)) ⟨by omega, by omega⟩ (by (repeat refine mg_n (by omega) ?_); first | assumption | exact mup_s _ _ _) rfl rfl rfl rfl (Nat.le_of_ble_eq_true rfl) (fun μ' hpost => ?_)
        obtain ⟨x9, y9, rfl, hx9, hy9⟩ := hpost
        refine p_vret (pc := 143) C dX5_tryStow_143 ?_
        first
          | (rw [wst_y hrM (by omega)]; exact ⟨rfl, ⟨_, _, _, by (repeat (refine mg_n (by omega) ?_)); exact mup_s _ _ _, by (repeat (refine mg_n (by omega) ?_)); exact mup_s _ _ _, rfl, rfl, hwl.1, fun j j0 j1 => by obtain ⟨d3, d2, d1, d0⟩ := dg_d h0 h1; rcases (show j = 0 ∨ j = 1 ∨ j = 2 ∨ j = 3 by omega) with rfl | rfl | rfl | rfl; (rw [fup_s, d0]); (rw [fup_n _ _ _ (by omega), fup_s, d1]); (rw [fup_n _ _ _ (by omega), fup_n _ _ _ (by omega), fup_s, d2]); (rw [fup_n _ _ _ (by omega), fup_n _ _ _ (by omega), fup_n _ _ _ (by omega), fup_s, d3])⟩, ⟨p4, c4, by (repeat (refine mg_n (by omega) ?_)); exact u54, by (repeat (refine mg_n (by omega) ?_)); exact u55, uK⟩, ⟨x9, y9, mg_n (by omega) (mup_s _ _ _), mup_s _ _ _, MR_kp uK hx9 hy9⟩, fun z z0 z1 z2 z3 z4 z5 => by (repeat (refine mg_n (by assumption) ?_)); exact uo z z0 z1 z2 z3 z4 z5⟩)
          | (rw [wst_n hrM (by omega)]; exact ⟨rfl, ⟨sL, sF, f, by (repeat (refine mg_n (by omega) ?_)); exact u0, by (repeat (refine mg_n (by omega) ?_)); exact u56, hrM⟩, ⟨p4, c4, by (repeat (refine mg_n (by omega) ?_)); exact u54, by (repeat (refine mg_n (by omega) ?_)); exact u55, uK⟩, ⟨x9, y9, mg_n (by omega) (mup_s _ _ _), mup_s _ _ _, MR_kp uK hx9 hy9⟩, fun z z0 z1 z2 z3 z4 z5 => by (repeat (refine mg_n (by assumption) ?_)); exact uo z z0 z1 z2 z3 z4 z5⟩)
      · refine p_iload (pc := 82) C dX5_tryStow_82 rfl ?_
        refine p_aload_n (pc := 84) C dX5_tryStow_84 rfl ?_
        refine p_get (pc := 85) C fl_X5_199 dX5_tryStow_85 ⟨by omega, by omega⟩ (by (repeat refine mg_n (by omega) ?_); first | assumption | exact mup_s _ _ _) (by rfl) ?_
        refine p_icmp_le (pc := 88) (tgt := 139) C dX5_tryStow_88 (by decide) (fun c_88 => ?_) (fun c_88 => ?_)
        · refine p_aload_n (pc := 139) C dX5_tryStow_139 rfl ?_
          refine p_callVV (pc := 140) C ln_X5_186 dX5_tryStow_140 (k_X5_putBack (by (repeat refine mg_n (by omega) ?_); first | assumption | exact mup_s _ _ _) hns (by (repeat refine mg_n (by omega) ?_); first | assumption | exact mup_s _ _ _) (by (repeat refine mg_n (by omega) ?_); first | assumption | exact mup_s _ _ _) (by (repeat refine mg_n (by omega) ?_); first | assumption | exact mup_s _ _ _) (by (repeat refine mg_n (by omega) ?_); first | assumption | exact mup_s _ _ _)) ⟨by omega, by omega⟩ (by (repeat refine mg_n (by omega) ?_); first | assumption | exact mup_s _ _ _) rfl rfl rfl rfl (Nat.le_of_ble_eq_true rfl) (fun μ' hpost => ?_)
          obtain ⟨x9, y9, rfl, hx9, hy9⟩ := hpost
          refine p_vret (pc := 143) C dX5_tryStow_143 ?_
          first
            | (rw [wst_y hrM (by omega)]; exact ⟨rfl, ⟨_, _, _, by (repeat (refine mg_n (by omega) ?_)); exact mup_s _ _ _, by (repeat (refine mg_n (by omega) ?_)); exact mup_s _ _ _, rfl, rfl, hwl.1, fun j j0 j1 => by obtain ⟨d3, d2, d1, d0⟩ := dg_d h0 h1; rcases (show j = 0 ∨ j = 1 ∨ j = 2 ∨ j = 3 by omega) with rfl | rfl | rfl | rfl; (rw [fup_s, d0]); (rw [fup_n _ _ _ (by omega), fup_s, d1]); (rw [fup_n _ _ _ (by omega), fup_n _ _ _ (by omega), fup_s, d2]); (rw [fup_n _ _ _ (by omega), fup_n _ _ _ (by omega), fup_n _ _ _ (by omega), fup_s, d3])⟩, ⟨p4, c4, by (repeat (refine mg_n (by omega) ?_)); exact u54, by (repeat (refine mg_n (by omega) ?_)); exact u55, uK⟩, ⟨x9, y9, mg_n (by omega) (mup_s _ _ _), mup_s _ _ _, MR_kp uK hx9 hy9⟩, fun z z0 z1 z2 z3 z4 z5 => by (repeat (refine mg_n (by assumption) ?_)); exact uo z z0 z1 z2 z3 z4 z5⟩)
            | (rw [wst_n hrM (by omega)]; exact ⟨rfl, ⟨sL, sF, f, by (repeat (refine mg_n (by omega) ?_)); exact u0, by (repeat (refine mg_n (by omega) ?_)); exact u56, hrM⟩, ⟨p4, c4, by (repeat (refine mg_n (by omega) ?_)); exact u54, by (repeat (refine mg_n (by omega) ?_)); exact u55, uK⟩, ⟨x9, y9, mg_n (by omega) (mup_s _ _ _), mup_s _ _ _, MR_kp uK hx9 hy9⟩, fun z z0 z1 z2 z3 z4 z5 => by (repeat (refine mg_n (by assumption) ?_)); exact uo z z0 z1 z2 z3 z4 z5⟩)
        · refine p_aload_n (pc := 91) C dX5_tryStow_91 rfl ?_
          refine p_iload (pc := 92) C dX5_tryStow_92 rfl ?_
          refine p_putL (pc := 94) (fs' := [_, _, _, _, _, _, _, _, _, _, _, _, _, _, _, _, _, _, _, _, _, _, _, _, _, _, _, _, _, _, _]) C fp_X5_196 dX5_tryStow_94 ⟨by omega, by omega⟩ (by (repeat refine mg_n (by omega) ?_); first | assumption | exact mup_s _ _ _) (by exact Nat.le_of_ble_eq_true rfl) (by rfl) ?_
          try refine p_mem (mup_mup _ _ _ _) ?_
          refine p_aload_n (pc := 97) C dX5_tryStow_97 rfl ?_
          refine p_iload (pc := 98) C dX5_tryStow_98 rfl ?_
          refine p_putL (pc := 100) (fs' := [_, _, _, _, _, _, _, _, _, _, _, _, _, _, _, _, _, _, _, _, _, _, _, _, _, _, _, _, _, _, _]) C fp_X5_199 dX5_tryStow_100 ⟨by omega, by omega⟩ (by (repeat refine mg_n (by omega) ?_); first | assumption | exact mup_s _ _ _) (by exact Nat.le_of_ble_eq_true rfl) (by rfl) ?_
          try refine p_mem (mup_mup _ _ _ _) ?_
          refine p_iconst (pc := 103) C dX5_tryStow_103 (by decide) ?_
          refine p_istore (pc := 104) (ls' := [(7, _), (6, _), (5, _), (4, _), (0, _), (1, _), (2, _), (3, _)]) C dX5_tryStow_104 (by decide) rfl ?_
          refine p_iload_n (pc := 106) C dX5_tryStow_106 rfl ?_
          refine p_istore (pc := 107) (ls' := [(8, _), (7, _), (6, _), (5, _), (4, _), (0, _), (1, _), (2, _), (3, _)]) C dX5_tryStow_107 (by decide) rfl ?_
          refine p_iload (pc := 109) C dX5_tryStow_109 rfl ?_
          refine p_if_lt (pc := 111) (tgt := 139) C dX5_tryStow_111 (by decide) (fun h => absurd h (by decide)) (fun c_111 => ?_)
          refine p_aload_n (pc := 114) C dX5_tryStow_114 rfl ?_
          refine p_get (pc := 115) C fl_X5_49 dX5_tryStow_115 ⟨by omega, by omega⟩ (by (repeat refine mg_n (by omega) ?_); first | assumption | exact mup_s _ _ _) (by rfl) ?_
          refine p_iload (pc := 118) C dX5_tryStow_118 rfl ?_
          refine p_iload (pc := 120) C dX5_tryStow_120 rfl ?_
          refine p_bipush (pc := 122) C dX5_tryStow_122 (by decide) ?_
          refine p_irem (pc := 124) C dX5_tryStow_124 (by omega) (by omega) ?_
          refine p_iast (pc := 125) C dX5_tryStow_125 ⟨by omega, by omega⟩ (by (repeat refine mg_n (by omega) ?_); first | assumption | exact mup_s _ _ _) (by omega) ?_
          try refine p_mem (mup_mup _ _ _ _) ?_
          refine p_iload (pc := 126) C dX5_tryStow_126 rfl ?_
          refine p_bipush (pc := 128) C dX5_tryStow_128 (by decide) ?_
          refine p_idiv (pc := 130) C dX5_tryStow_130 (by omega) (by omega) ?_
          refine p_istore (pc := 131) (ls' := [(8, _), (7, _), (6, _), (5, _), (4, _), (0, _), (1, _), (2, _), (3, _)]) C dX5_tryStow_131 (by decide) rfl ?_
          refine p_iincC (pc := 133) (w := 2) (ls' := [(7, _), (8, _), (6, _), (5, _), (4, _), (0, _), (1, _), (2, _), (3, _)]) C dX5_tryStow_133 (by decide) rfl (by decide) (by decide) rfl ?_
          refine p_goto (pc := 136) (tgt := 109) C dX5_tryStow_136 (by decide) ?_
          refine p_iload (pc := 109) C dX5_tryStow_109 rfl ?_
          refine p_if_lt (pc := 111) (tgt := 139) C dX5_tryStow_111 (by decide) (fun h => absurd h (by decide)) (fun c_111 => ?_)
          refine p_aload_n (pc := 114) C dX5_tryStow_114 rfl ?_
          refine p_get (pc := 115) C fl_X5_49 dX5_tryStow_115 ⟨by omega, by omega⟩ (by (repeat refine mg_n (by omega) ?_); first | assumption | exact mup_s _ _ _) (by rfl) ?_
          refine p_iload (pc := 118) C dX5_tryStow_118 rfl ?_
          refine p_iload (pc := 120) C dX5_tryStow_120 rfl ?_
          refine p_bipush (pc := 122) C dX5_tryStow_122 (by decide) ?_
          refine p_irem (pc := 124) C dX5_tryStow_124 (by omega) (by omega) ?_
          refine p_iast (pc := 125) C dX5_tryStow_125 ⟨by omega, by omega⟩ (by (repeat refine mg_n (by omega) ?_); first | assumption | exact mup_s _ _ _) (by omega) ?_
          try refine p_mem (mup_mup _ _ _ _) ?_
          refine p_iload (pc := 126) C dX5_tryStow_126 rfl ?_
          refine p_bipush (pc := 128) C dX5_tryStow_128 (by decide) ?_
          refine p_idiv (pc := 130) C dX5_tryStow_130 (by omega) (by omega) ?_
          refine p_istore (pc := 131) (ls' := [(8, _), (7, _), (6, _), (5, _), (4, _), (0, _), (1, _), (2, _), (3, _)]) C dX5_tryStow_131 (by decide) rfl ?_
          refine p_iincC (pc := 133) (w := 1) (ls' := [(7, _), (8, _), (6, _), (5, _), (4, _), (0, _), (1, _), (2, _), (3, _)]) C dX5_tryStow_133 (by decide) rfl (by decide) (by decide) rfl ?_
          refine p_goto (pc := 136) (tgt := 109) C dX5_tryStow_136 (by decide) ?_
          refine p_iload (pc := 109) C dX5_tryStow_109 rfl ?_
          refine p_if_lt (pc := 111) (tgt := 139) C dX5_tryStow_111 (by decide) (fun h => absurd h (by decide)) (fun c_111 => ?_)
          refine p_aload_n (pc := 114) C dX5_tryStow_114 rfl ?_
          refine p_get (pc := 115) C fl_X5_49 dX5_tryStow_115 ⟨by omega, by omega⟩ (by (repeat refine mg_n (by omega) ?_); first | assumption | exact mup_s _ _ _) (by rfl) ?_
          refine p_iload (pc := 118) C dX5_tryStow_118 rfl ?_
          refine p_iload (pc := 120) C dX5_tryStow_120 rfl ?_
          refine p_bipush (pc := 122) C dX5_tryStow_122 (by decide) ?_
          refine p_irem (pc := 124) C dX5_tryStow_124 (by omega) (by omega) ?_
          refine p_iast (pc := 125) C dX5_tryStow_125 ⟨by omega, by omega⟩ (by (repeat refine mg_n (by omega) ?_); first | assumption | exact mup_s _ _ _) (by omega) ?_
          try refine p_mem (mup_mup _ _ _ _) ?_
          refine p_iload (pc := 126) C dX5_tryStow_126 rfl ?_
          refine p_bipush (pc := 128) C dX5_tryStow_128 (by decide) ?_
          refine p_idiv (pc := 130) C dX5_tryStow_130 (by omega) (by omega) ?_
          refine p_istore (pc := 131) (ls' := [(8, _), (7, _), (6, _), (5, _), (4, _), (0, _), (1, _), (2, _), (3, _)]) C dX5_tryStow_131 (by decide) rfl ?_
          refine p_iincC (pc := 133) (w := 0) (ls' := [(7, _), (8, _), (6, _), (5, _), (4, _), (0, _), (1, _), (2, _), (3, _)]) C dX5_tryStow_133 (by decide) rfl (by decide) (by decide) rfl ?_
          refine p_goto (pc := 136) (tgt := 109) C dX5_tryStow_136 (by decide) ?_
          refine p_iload (pc := 109) C dX5_tryStow_109 rfl ?_
          refine p_if_lt (pc := 111) (tgt := 139) C dX5_tryStow_111 (by decide) (fun h => absurd h (by decide)) (fun c_111 => ?_)
          refine p_aload_n (pc := 114) C dX5_tryStow_114 rfl ?_
          refine p_get (pc := 115) C fl_X5_49 dX5_tryStow_115 ⟨by omega, by omega⟩ (by (repeat refine mg_n (by omega) ?_); first | assumption | exact mup_s _ _ _) (by rfl) ?_
          refine p_iload (pc := 118) C dX5_tryStow_118 rfl ?_
          refine p_iload (pc := 120) C dX5_tryStow_120 rfl ?_
          refine p_bipush (pc := 122) C dX5_tryStow_122 (by decide) ?_
          refine p_irem (pc := 124) C dX5_tryStow_124 (by omega) (by omega) ?_
          refine p_iast (pc := 125) C dX5_tryStow_125 ⟨by omega, by omega⟩ (by (repeat refine mg_n (by omega) ?_); first | assumption | exact mup_s _ _ _) (by omega) ?_
          try refine p_mem (mup_mup _ _ _ _) ?_
          refine p_iload (pc := 126) C dX5_tryStow_126 rfl ?_
          refine p_bipush (pc := 128) C dX5_tryStow_128 (by decide) ?_
          refine p_idiv (pc := 130) C dX5_tryStow_130 (by omega) (by omega) ?_
          refine p_istore (pc := 131) (ls' := [(8, _), (7, _), (6, _), (5, _), (4, _), (0, _), (1, _), (2, _), (3, _)]) C dX5_tryStow_131 (by decide) rfl ?_
          refine p_iincC (pc := 133) (w := -1) (ls' := [(7, _), (8, _), (6, _), (5, _), (4, _), (0, _), (1, _), (2, _), (3, _)]) C dX5_tryStow_133 (by decide) rfl (by decide) (by decide) rfl ?_
          refine p_goto (pc := 136) (tgt := 109) C dX5_tryStow_136 (by decide) ?_
          refine p_iload (pc := 109) C dX5_tryStow_109 rfl ?_
          refine p_if_lt (pc := 111) (tgt := 139) C dX5_tryStow_111 (by decide) (fun c_111 => ?_) (fun h => absurd h (by decide))
          refine p_aload_n (pc := 139) C dX5_tryStow_139 rfl ?_
          refine p_callVV (pc := 140) C ln_X5_186 dX5_tryStow_140 (k_X5_putBack (by (repeat refine mg_n (by omega) ?_); first | assumption | exact mup_s _ _ _) hns (by (repeat refine mg_n (by omega) ?_); first | assumption | exact mup_s _ _ _) (by (repeat refine mg_n (by omega) ?_); first | assumption | exact mup_s _ _ _) (by (repeat refine mg_n (by omega) ?_); first | assumption | exact mup_s _ _ _) (by (repeat refine mg_n (by omega) ?_); first | assumption | exact mup_s _ _ _)) ⟨by omega, by omega⟩ (by (repeat refine mg_n (by omega) ?_); first | assumption | exact mup_s _ _ _) rfl rfl rfl rfl (Nat.le_of_ble_eq_true rfl) (fun μ' hpost => ?_)
          obtain ⟨x9, y9, rfl, hx9, hy9⟩ := hpost
          refine p_vret (pc := 143) C dX5_tryStow_143 ?_
          first
            | (rw [wst_y hrM (by omega)]; exact ⟨rfl, ⟨_, _, _, by (repeat (refine mg_n (by omega) ?_)); exact mup_s _ _ _, by (repeat (refine mg_n (by omega) ?_)); exact mup_s _ _ _, rfl, rfl, hwl.1, fun j j0 j1 => by obtain ⟨d3, d2, d1, d0⟩ := dg_d h0 h1; rcases (show j = 0 ∨ j = 1 ∨ j = 2 ∨ j = 3 by omega) with rfl | rfl | rfl | rfl; (rw [fup_s, d0]); (rw [fup_n _ _ _ (by omega), fup_s, d1]); (rw [fup_n _ _ _ (by omega), fup_n _ _ _ (by omega), fup_s, d2]); (rw [fup_n _ _ _ (by omega), fup_n _ _ _ (by omega), fup_n _ _ _ (by omega), fup_s, d3])⟩, ⟨p4, c4, by (repeat (refine mg_n (by omega) ?_)); exact u54, by (repeat (refine mg_n (by omega) ?_)); exact u55, uK⟩, ⟨x9, y9, mg_n (by omega) (mup_s _ _ _), mup_s _ _ _, MR_kp uK hx9 hy9⟩, fun z z0 z1 z2 z3 z4 z5 => by (repeat (refine mg_n (by assumption) ?_)); exact uo z z0 z1 z2 z3 z4 z5⟩)
            | (rw [wst_n hrM (by omega)]; exact ⟨rfl, ⟨sL, sF, f, by (repeat (refine mg_n (by omega) ?_)); exact u0, by (repeat (refine mg_n (by omega) ?_)); exact u56, hrM⟩, ⟨p4, c4, by (repeat (refine mg_n (by omega) ?_)); exact u54, by (repeat (refine mg_n (by omega) ?_)); exact u55, uK⟩, ⟨x9, y9, mg_n (by omega) (mup_s _ _ _), mup_s _ _ _, MR_kp uK hx9 hy9⟩, fun z z0 z1 z2 z3 z4 z5 => by (repeat (refine mg_n (by assumption) ?_)); exact uo z z0 z1 z2 z3 z4 z5⟩)
