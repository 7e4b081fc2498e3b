/-- STOWING: numbers of four digits, tried in their order -/
abbrev oW (l m : Int) : ME := mO 2 [vI l, vI m, vR 6, vR 7, vR 8]
def dg (x j : Int) : Int := if j = 0 then x / 1000 else if j = 1 then x / 100 % 10 else if j = 2 then x / 10 % 10 else x % 10
abbrev SS : Type := Option (Int × Int × Int)
/-- the best so far, and another one -/
def wst (nm r : Int) (S : SS) (x : Int) : SS := match S with
  | none => some (wor (los (dg x) nm r), wor (dg x) - wor (los (dg x) nm r), x)
  | some q => if wor (los (dg x) nm r) < q.1 ∨ (wor (los (dg x) nm r) = q.1 ∧ q.2.1 < wor (dg x) - wor (los (dg x) nm r)) then some (wor (los (dg x) nm r), wor (dg x) - wor (los (dg x) nm r), x) else some q
def rC (S : SS) (l m : Int) (f : Int → Int) : Prop := match S with
  | none => l = 49
  | some q => l = q.1 ∧ m = q.2.1 ∧ ∀ j, 0 ≤ j → j < 4 → f j = dg q.2.2 j
def SI (S : SS) (μ ν : Int → ME) : Prop := (∀ x, x < 5 ∨ 8 < x → ν x = μ x) ∧ ∃ (l m : Int) (f6 f8 : Int → Int), ν 5 = oW l m ∧ ν 6 = mA 4 f6 ∧ ν 8 = mA 4 f8 ∧ rC S l m f6
def crN (a b p nm r c : Int) (S : SS) : Nat → SS
  | 0 => S
  | t + 1 => crN a b p nm r (c + 1) (if p - c ≤ 9 then wst nm r S (1000 * a + 100 * b + 10 * c + (p - c)) else S) t
def chB (a p nm r b : Int) (S : SS) : Nat → SS
  | 0 => S
  | t + 1 => chB a p nm r (b + 1) (crN a b (p - a - b) nm r 0 S ((if 9 < p - a - b then 9 else p - a - b) + 1).toNat) t
def chA (p nm r a : Int) (S : SS) : Nat → SS
  | 0 => S
  | t + 1 => chA p nm r (a + 1) (chB a p nm r 0 S ((if 9 < p - a then 9 else p - a) + 1).toNat) t
theorem los_c {f g : Int → Int} {nm r : Int} (h : ∀ j, 0 ≤ j → j < 4 → f j = g j) (hn : 0 ≤ nm ∧ nm < 4) : ∀ j, 0 ≤ j → j < 4 → los f nm r j = los g nm r j := fun j j0 j1 => by
  unfold los cum
  rw [h 0 (by omega) (by omega), h 1 (by omega) (by omega), h 2 (by omega) (by omega), h j j0 j1, h nm hn.1 hn.2]
theorem wor_los {f : Int → Int} {nm r : Int} (hb : bd4 f 100) (hn : 0 ≤ nm ∧ nm < 4) : 0 ≤ wor (los f nm r) ∧ wor (los f nm r) ≤ wor f ∧ wor f ≤ 1000 := by
  have a0 := los_r (r := r) hb hn (j := 0) (by omega) (by omega)
  have a1 := los_r (r := r) hb hn (j := 1) (by omega) (by omega)
  have a2 := los_r (r := r) hb hn (j := 2) (by omega) (by omega)
  have a3 := los_r (r := r) hb hn (j := 3) (by omega) (by omega)
  obtain ⟨⟨b0, b1⟩, ⟨b2, b3⟩, ⟨b4, b5⟩, ⟨b6, b7⟩⟩ := hb
  unfold wor; omega

set_option maxHeartbeats 4000000 in
set_option maxRecDepth 100000 in
theorem k_X2_weigh {K : KX} {d : Nat} {μ : Int → ME} {l m nm r : Int} {T f6 g : Int → Int} (h5 : μ 5 = oW l m) (h6 : μ 6 = mA 4 f6) (h7 : μ 7 = mA 4 T) (h8 : μ 8 = mA 4 g) (hnm : 0 ≤ nm ∧ nm < 4) (hb : bd4 T 100) (hr : 0 ≤ r ∧ r ≤ 1000) : Ct K (d + 3) yX2_weigh cX2_weigh 5 none [vR 5, vI nm, vI r] μ (pV (fun μ' => ∃ G : Int → Int, ((wor (los T nm r) < l ∨ (wor (los T nm r) = l ∧ m < wor T - wor (los T nm r))) ∧ μ' = mup (mup (mup μ 8 (mA 4 G)) 5 (oW (wor (los T nm r)) (wor T - wor (los T nm r)))) 6 (mA 4 (fcp T f6 0 0 4))) ∨ (¬ (wor (los T nm r) < l ∨ (wor (los T nm r) = l ∧ m < wor T - wor (los T nm r))) ∧ μ' = mup μ 8 (mA 4 G)))) := by
  refine Ct.of (by decide) (Nat.le_of_ble_eq_true rfl) (fun X C => ?_)
  refine p_aload_n (pc := 0) C dX2_weigh_0 rfl ?_
  refine p_get (pc := 1) C fl_X2_15 dX2_weigh_1 ⟨by omega, by omega⟩ (by (repeat refine mg_n (by omega) ?_); first | assumption | exact mup_s _ _ _) (by rfl) ?_
  refine p_iload_n (pc := 4) C dX2_weigh_4 rfl ?_
  refine p_iload_n (pc := 5) C dX2_weigh_5 rfl ?_
  refine p_aload_n (pc := 6) C dX2_weigh_6 rfl ?_
  refine p_get (pc := 7) C fl_X2_18 dX2_weigh_7 ⟨by omega, by omega⟩ (by (repeat refine mg_n (by omega) ?_); first | assumption | exact mup_s _ _ _) (by rfl) ?_
  refine p_callNV (pc := 10) C ln_X2_42 dX2_weigh_10 (k_X4_fillLosses ⟨by omega, by omega⟩ h7 ⟨by omega, by omega⟩ h8 (by omega) hnm hb hr) rfl rfl (Nat.le_of_ble_eq_true rfl) (fun μ' hpost => ?_)
  obtain ⟨G, rfl, hG⟩ := hpost
  have hw := wor_los (r := r) hb hnm
  refine p_aload_n (pc := 13) C dX2_weigh_13 rfl ?_
  refine p_get (pc := 14) C fl_X2_18 dX2_weigh_14 ⟨by omega, by omega⟩ (by (repeat refine mg_n (by omega) ?_); first | assumption | exact mup_s _ _ _) (by rfl) ?_
  refine p_callNF (pc := 17) C ln_X2_46 dX2_weigh_17 (k_X4_worthOfAll ⟨by omega, by omega⟩ (by (repeat refine mg_n (by omega) ?_); first | assumption | exact mup_s _ _ _) ((los_b hb hnm hG).le (by omega))) rfl rfl (Nat.le_of_ble_eq_true rfl) ?_
  refine p_top (wor_c hG) ?_
  refine p_istore_n (pc := 20) (ls' := [(3, _), (0, _), (1, _), (2, _)]) C dX2_weigh_20 (by decide) rfl ?_
  refine p_aload_n (pc := 21) C dX2_weigh_21 rfl ?_
  refine p_get (pc := 22) C fl_X2_15 dX2_weigh_22 ⟨by omega, by omega⟩ (by (repeat refine mg_n (by omega) ?_); first | assumption | exact mup_s _ _ _) (by rfl) ?_
  refine p_callNF (pc := 25) C ln_X2_46 dX2_weigh_25 (k_X4_worthOfAll ⟨by omega, by omega⟩ (by (repeat refine mg_n (by omega) ?_); first | assumption | exact mup_s _ _ _) hb) rfl rfl (Nat.le_of_ble_eq_true rfl) ?_
  refine p_iload_n (pc := 28) C dX2_weigh_28 rfl ?_
  refine p_isub (pc := 29) C dX2_weigh_29 ⟨by omega, by omega⟩ ?_
  refine p_istore (pc := 30) (ls' := [(4, _), (3, _), (0, _), (1, _), (2, _)]) C dX2_weigh_30 (by decide) rfl ?_
  refine p_iload_n (pc := 32) C dX2_weigh_32 rfl ?_
  refine p_aload_n (pc := 33) C dX2_weigh_33 rfl ?_
  refine p_get (pc := 34) C fl_X2_21 dX2_weigh_34 ⟨by omega, by omega⟩ (by (repeat refine mg_n (by omega) ?_); first | assumption | exact mup_s _ _ _) (by rfl) ?_
  refine p_icmp_lt (pc := 37) (tgt := 57) C dX2_weigh_37 (by decide) (fun c_37 => ?_) (fun c_37 => ?_)
  · refine p_aload_n (pc := 57) C dX2_weigh_57 rfl ?_
    refine p_iload_n (pc := 58) C dX2_weigh_58 rfl ?_
    refine p_putL (pc := 59) (fs' := [_, _, _, _, _]) C fp_X2_21 dX2_weigh_59 ⟨by omega, by omega⟩ (by (repeat refine mg_n (by omega) ?_); first | assumption | exact mup_s _ _ _) (by exact Nat.le_of_ble_eq_true rfl) (by rfl) ?_
    try refine p_mem (mup_mup _ _ _ _) ?_
    refine p_aload_n (pc := 62) C dX2_weigh_62 rfl ?_
    refine p_iload (pc := 63) C dX2_weigh_63 rfl ?_
    refine p_putL (pc := 65) (fs' := [_, _, _, _, _]) C fp_X2_25 dX2_weigh_65 ⟨by omega, by omega⟩ (by (repeat refine mg_n (by omega) ?_); first | assumption | exact mup_s _ _ _) (by exact Nat.le_of_ble_eq_true rfl) (by rfl) ?_
    try refine p_mem (mup_mup _ _ _ _) ?_
    refine p_aload_n (pc := 68) C dX2_weigh_68 rfl ?_
    refine p_get (pc := 69) C fl_X2_15 dX2_weigh_69 ⟨by omega, by omega⟩ (by (repeat refine mg_n (by omega) ?_); first | assumption | exact mup_s _ _ _) (by rfl) ?_
    refine p_iconst (pc := 72) C dX2_weigh_72 (by decide) ?_
    refine p_aload_n (pc := 73) C dX2_weigh_73 rfl ?_
    refine p_get (pc := 74) C fl_X2_9 dX2_weigh_74 ⟨by omega, by omega⟩ (by (repeat refine mg_n (by omega) ?_); first | assumption | exact mup_s _ _ _) (by rfl) ?_
    refine p_iconst (pc := 77) C dX2_weigh_77 (by decide) ?_
    refine p_iconst (pc := 78) C dX2_weigh_78 (by decide) ?_
    refine p_copy (pc := 79) C kl_X2_50 dX2_weigh_79 ⟨by omega, by omega⟩ ⟨by omega, by omega⟩ (by (repeat refine mg_n (by omega) ?_); first | assumption | exact mup_s _ _ _) (by (repeat refine mg_n (by omega) ?_); first | assumption | exact mup_s _ _ _) (by omega) (by omega) (by omega) (by omega) (by omega) ?_
    refine p_vret (pc := 82) C dX2_weigh_82 ?_
    first
      | exact ⟨rfl, G, Or.inl ⟨by omega, rfl⟩⟩
      | exact ⟨rfl, G, Or.inr ⟨by omega, rfl⟩⟩
  · refine p_iload_n (pc := 40) C dX2_weigh_40 rfl ?_
    refine p_aload_n (pc := 41) C dX2_weigh_41 rfl ?_
    refine p_get (pc := 42) C fl_X2_21 dX2_weigh_42 ⟨by omega, by omega⟩ (by (repeat refine mg_n (by omega) ?_); first | assumption | exact mup_s _ _ _) (by rfl) ?_
    refine p_icmp_ne (pc := 45) (tgt := 82) C dX2_weigh_45 (by decide) (fun c_45 => ?_) (fun c_45 => ?_)
    · refine p_vret (pc := 82) C dX2_weigh_82 ?_
      first
        | exact ⟨rfl, G, Or.inl ⟨by omega, rfl⟩⟩
        | exact ⟨rfl, G, Or.inr ⟨by omega, rfl⟩⟩
    · refine p_iload (pc := 48) C dX2_weigh_48 rfl ?_
      refine p_aload_n (pc := 50) C dX2_weigh_50 rfl ?_
      refine p_get (pc := 51) C fl_X2_25 dX2_weigh_51 ⟨by omega, by omega⟩ (by (repeat refine mg_n (by omega) ?_); first | assumption | exact mup_s _ _ _) (by rfl) ?_
      refine p_icmp_le (pc := 54) (tgt := 82) C dX2_weigh_54 (by decide) (fun c_54 => ?_) (fun c_54 => ?_)
      · refine p_vret (pc := 82) C dX2_weigh_82 ?_
        first
          | exact ⟨rfl, G, Or.inl ⟨by omega, rfl⟩⟩
          | exact ⟨rfl, G, Or.inr ⟨by omega, rfl⟩⟩
      · refine p_aload_n (pc := 57) C dX2_weigh_57 rfl ?_
        refine p_iload_n (pc := 58) C dX2_weigh_58 rfl ?_
        refine p_putL (pc := 59) (fs' := [_, _, _, _, _]) C fp_X2_21 dX2_weigh_59 ⟨by omega, by omega⟩ (by (repeat refine mg_n (by omega) ?_); first | assumption | exact mup_s _ _ _) (by exact Nat.le_of_ble_eq_true rfl) (by rfl) ?_
        try refine p_mem (mup_mup _ _ _ _) ?_
        refine p_aload_n (pc := 62) C dX2_weigh_62 rfl ?_
        refine p_iload (pc := 63) C dX2_weigh_63 rfl ?_
        refine p_putL (pc := 65) (fs' := [_, _, _, _, _]) C fp_X2_25 dX2_weigh_65 ⟨by omega, by omega⟩ (by (repeat refine mg_n (by omega) ?_); first | assumption | exact mup_s _ _ _) (by exact Nat.le_of_ble_eq_true rfl) (by rfl) ?_
        try refine p_mem (mup_mup _ _ _ _) ?_
        refine p_aload_n (pc := 68) C dX2_weigh_68 rfl ?_
        refine p_get (pc := 69) C fl_X2_15 dX2_weigh_69 ⟨by omega, by omega⟩ (by (repeat refine mg_n (by omega) ?_); first | assumption | exact mup_s _ _ _) (by rfl) ?_
        refine p_iconst (pc := 72) C dX2_weigh_72 (by decide) ?_
        refine p_aload_n (pc := 73) C dX2_weigh_73 rfl ?_
        refine p_get (pc := 74) C fl_X2_9 dX2_weigh_74 ⟨by omega, by omega⟩ (by (repeat refine mg_n (by omega) ?_); first | assumption | exact mup_s _ _ _) (by rfl) ?_
        refine p_iconst (pc := 77) C dX2_weigh_77 (by decide) ?_
        refine p_iconst (pc := 78) C dX2_weigh_78 (by decide) ?_
        refine p_copy (pc := 79) C kl_X2_50 dX2_weigh_79 ⟨by omega, by omega⟩ ⟨by omega, by omega⟩ (by (repeat refine mg_n (by omega) ?_); first | assumption | exact mup_s _ _ _) (by (repeat refine mg_n (by omega) ?_); first | assumption | exact mup_s _ _ _) (by omega) (by omega) (by omega) (by omega) (by omega) ?_
        refine p_vret (pc := 82) C dX2_weigh_82 ?_
        first
          | exact ⟨rfl, G, Or.inl ⟨by omega, rfl⟩⟩
          | exact ⟨rfl, G, Or.inr ⟨by omega, rfl⟩⟩

theorem dg_b {x : Int} (h0 : 0 ≤ x) (h1 : x < 10000) : bd4 (dg x) 9 := by
  unfold bd4 dg
  simp only [if_true, if_false, Int.reduceEq]
  omega
theorem dg_n {a b c d : Int} (ha : 0 ≤ a ∧ a ≤ 9) (hb : 0 ≤ b ∧ b ≤ 9) (hc : 0 ≤ c ∧ c ≤ 9) (hd : 0 ≤ d ∧ d ≤ 9) : dg (1000 * a + 100 * b + 10 * c + d) 0 = a ∧ dg (1000 * a + 100 * b + 10 * c + d) 1 = b ∧ dg (1000 * a + 100 * b + 10 * c + d) 2 = c ∧ dg (1000 * a + 100 * b + 10 * c + d) 3 = d := by
  have e1 : (1000 * a + 100 * b + 10 * c + d) / 100 = 10 * a + b := by omega
  have e2 : (1000 * a + 100 * b + 10 * c + d) / 10 = 100 * a + 10 * b + c := by omega
  unfold dg
  rw [e1, e2]
  simp only [if_true, if_false, Int.reduceEq]
  refine ⟨by omega, by omega, by omega, by omega⟩
/-- one weighing, as the best so far -/
theorem SI_weigh {S : SS} {μ ν ν' : Int → ME} {nm r x l m : Int} {T f6 f8 G : Int → Int} (hx0 : 0 ≤ x) (hx1 : x < 10000) (hx2 : wor (dg x) ≤ 48) (hn : 0 ≤ nm ∧ nm < 4) (hT : ∀ j, 0 ≤ j → j < 4 → T j = dg x j) (ho : ∀ x, x < 5 ∨ 8 < x → ν x = μ x) (h5 : ν 5 = oW l m) (h6 : ν 6 = mA 4 f6) (h8 : ν 8 = mA 4 f8) (hS : rC S l m f6)
    (h : ((wor (los T nm r) < l ∨ (wor (los T nm r) = l ∧ m < wor T - wor (los T nm r))) ∧ ν' = mup (mup (mup ν 8 (mA 4 G)) 5 (oW (wor (los T nm r)) (wor T - wor (los T nm r)))) 6 (mA 4 (fcp T f6 0 0 4))) ∨ (¬ (wor (los T nm r) < l ∨ (wor (los T nm r) = l ∧ m < wor T - wor (los T nm r))) ∧ ν' = mup ν 8 (mA 4 G))) : SI (wst nm r S x) μ ν' ∧ ν' 7 = ν 7 := by
  rw [wor_c (los_c hT hn (r := r)), wor_c hT] at h
  have hw := wor_los (r := r) ((dg_b hx0 hx1).le (show (9 : Int) ≤ 100 by omega)) hn
  have hcp : ∀ j, 0 ≤ j → j < 4 → fcp T f6 0 0 4 j = dg x j := fun j j0 j1 => by
    unfold fcp; rw [if_pos (by omega), show 0 + (j - 0) = j by omega]; exact hT j j0 j1
  rcases h with ⟨hc, rfl⟩ | ⟨hc, rfl⟩
  · refine ⟨⟨fun y hy => mg_n (by omega) (mg_n (by omega) (mg_n (by omega) (ho y hy))), _, _, _, _, mg_n (by omega) (mup_s _ _ _), mup_s _ _ _, mg_n (by omega) (mg_n (by omega) (mup_s _ _ _)), ?_⟩, by rw [mup_n _ _ _ (by omega), mup_n _ _ _ (by omega), mup_n _ _ _ (by omega)]⟩
    unfold wst
    match S, hS with
    | none, hS => exact ⟨rfl, rfl, hcp⟩
    | some q, hS =>
      obtain ⟨e1, e2, -⟩ := hS
      dsimp only
      rw [if_pos (by rw [← e1, ← e2]; exact hc)]
      exact ⟨rfl, rfl, hcp⟩
  · refine ⟨⟨fun y hy => mg_n (by omega) (ho y hy), l, m, f6, G, mg_n (by omega) h5, mg_n (by omega) h6, mup_s _ _ _, ?_⟩, by rw [mup_n _ _ _ (by omega)]⟩
    unfold wst
    match S, hS with
    | none, hS => exact absurd (Or.inl (by have : l = 49 := hS; omega)) hc
    | some q, hS =>
      obtain ⟨e1, e2, e3⟩ := id hS
      dsimp only
      rw [if_neg (by rw [← e1, ← e2]; exact hc)]
      exact hS

set_option maxHeartbeats 4000000 in
set_option maxRecDepth 100000 in
theorem k_X2_chooseRest {K : KX} {d : Nat} {μ : Int → ME} {p nm r a b : Int} {S : SS} {μ0 : Int → ME} (hS : SI S μ0 μ) (h7 : ∃ T : Int → Int, μ 7 = mA 4 T ∧ T 0 = a ∧ T 1 = b) (hab : ((0 ≤ a ∧ a ≤ 9) ∧ (0 ≤ b ∧ b ≤ 9)) ∧ a + b + p ≤ 12) (hp : 0 ≤ p ∧ p ≤ 12) (hnm : 0 ≤ nm ∧ nm < 4) (hr : 0 ≤ r ∧ r ≤ 1000) : Ct K (d + 4) yX2_chooseRest cX2_chooseRest 5 none [vR 5, vI p, vI nm, vI r] μ (pV (fun μ' => SI (crN a b p nm r 0 S ((if 9 < p then 9 else p) + 1).toNat) μ0 μ' ∧ ∃ T : Int → Int, μ' 7 = mA 4 T ∧ T 0 = a ∧ T 1 = b)) := by
  refine Ct.of (by decide) (Nat.le_of_ble_eq_true rfl) (fun X C => ?_)
  have L : ∀ (t : Nat) (c : Int) (S1 : SS) (ν : Int → ME), 0 ≤ c → (if 9 < p then 9 else p) + 1 - c = (t : Int) → SI S1 μ0 ν → (∃ T : Int → Int, ν 7 = mA 4 T ∧ T 0 = a ∧ T 1 = b) → crN a b p nm r c S1 t = crN a b p nm r 0 S ((if 9 < p then 9 else p) + 1).toNat → PW K X 5 (QM K X (pV (fun μ' => SI (crN a b p nm r 0 S ((if 9 < p then 9 else p) + 1).toNat) μ0 μ' ∧ ∃ T : Int → Int, μ' 7 = mA 4 T ∧ T 0 = a ∧ T 1 = b))) 3 [(4, vI c), (0, vR 5), (1, vI p), (2, vI nm), (3, vI r)] [] ν := by
    intro t
    induction t with
    | zero =>
      intro c S1 ν h1 h2 h4 h5 h6
      obtain ⟨ho, l, m, f6, f8, a5, a6, a8, hrc⟩ := id h4
      obtain ⟨T, a7, t0, t1⟩ := id h5
      refine p_iload (pc := 3) C dX2_chooseRest_3 rfl ?_
      refine p_iload_n (pc := 5) C dX2_chooseRest_5 rfl ?_
      refine p_bipush (pc := 6) C dX2_chooseRest_6 (by decide) ?_
      refine p_min (pc := 8) C km_X2_28 dX2_chooseRest_8 (Nat.le_of_ble_eq_true rfl) ?_
      refine p_icmp_gt (pc := 11) (tgt := 55) C dX2_chooseRest_11 (by decide) (fun c_11 => ?_) (fun h => by exfalso; omega)
      refine p_vret (pc := 55) C dX2_chooseRest_55 ?_
      exact ⟨rfl, by rw [← h6]; exact h4, h5⟩
    | succ t ih =>
      intro c S1 ν h1 h2 h4 h5 h6
      obtain ⟨ho, l, m, f6, f8, a5, a6, a8, hrc⟩ := id h4
      obtain ⟨T, a7, t0, t1⟩ := id h5
      rw [crN] at h6
      refine p_iload (pc := 3) C dX2_chooseRest_3 rfl ?_
      refine p_iload_n (pc := 5) C dX2_chooseRest_5 rfl ?_
      refine p_bipush (pc := 6) C dX2_chooseRest_6 (by decide) ?_
      refine p_min (pc := 8) C km_X2_28 dX2_chooseRest_8 (Nat.le_of_ble_eq_true rfl) ?_
      refine p_icmp_gt (pc := 11) (tgt := 55) C dX2_chooseRest_11 (by decide) (fun h => by exfalso; omega) (fun c_11 => ?_)
      refine p_aload_n (pc := 14) C dX2_chooseRest_14 rfl ?_
      refine p_get (pc := 15) C fl_X2_15 dX2_chooseRest_15 ⟨by omega, by omega⟩ (by (repeat refine mg_n (by omega) ?_); first | assumption | exact mup_s _ _ _) (by rfl) ?_
      refine p_iconst (pc := 18) C dX2_chooseRest_18 (by decide) ?_
      refine p_iload (pc := 19) C dX2_chooseRest_19 rfl ?_
      refine p_iast (pc := 21) C dX2_chooseRest_21 ⟨by omega, by omega⟩ (by (repeat refine mg_n (by omega) ?_); first | assumption | exact mup_s _ _ _) (by omega) ?_
      try refine p_mem (mup_mup _ _ _ _) ?_
      refine p_aload_n (pc := 22) C dX2_chooseRest_22 rfl ?_
      refine p_get (pc := 23) C fl_X2_15 dX2_chooseRest_23 ⟨by omega, by omega⟩ (by (repeat refine mg_n (by omega) ?_); first | assumption | exact mup_s _ _ _) (by rfl) ?_
      refine p_iconst (pc := 26) C dX2_chooseRest_26 (by decide) ?_
      refine p_iload_n (pc := 27) C dX2_chooseRest_27 rfl ?_
      refine p_iload (pc := 28) C dX2_chooseRest_28 rfl ?_
      refine p_isub (pc := 30) C dX2_chooseRest_30 ⟨by omega, by omega⟩ ?_
      refine p_iast (pc := 31) C dX2_chooseRest_31 ⟨by omega, by omega⟩ (by (repeat refine mg_n (by omega) ?_); first | assumption | exact mup_s _ _ _) (by omega) ?_
      try refine p_mem (mup_mup _ _ _ _) ?_
      refine p_aload_n (pc := 32) C dX2_chooseRest_32 rfl ?_
      refine p_get (pc := 33) C fl_X2_15 dX2_chooseRest_33 ⟨by omega, by omega⟩ (by (repeat refine mg_n (by omega) ?_); first | assumption | exact mup_s _ _ _) (by rfl) ?_
      refine p_iconst (pc := 36) C dX2_chooseRest_36 (by decide) ?_
      refine p_iald (pc := 37) C dX2_chooseRest_37 ⟨by omega, by omega⟩ (by (repeat refine mg_n (by omega) ?_); first | assumption | exact mup_s _ _ _) (by omega) ?_
      try refine p_top (fup_s _ _ _) ?_
      refine p_bipush (pc := 38) C dX2_chooseRest_38 (by decide) ?_
      refine p_icmp_gt (pc := 40) (tgt := 49) C dX2_chooseRest_40 (by decide) (fun c_40 => ?_) (fun c_40 => ?_)
      · refine p_iinc (pc := 49) (ls' := [(4, _), (0, _), (1, _), (2, _), (3, _)]) C dX2_chooseRest_49 (by decide) rfl ⟨by omega, by omega⟩ rfl ?_
        refine p_goto (pc := 52) (tgt := 3) C dX2_chooseRest_52 (by decide) ?_
        refine ih (c + 1) (if p - c ≤ 9 then wst nm r S1 (1000 * a + 100 * b + 10 * c + (p - c)) else S1) _ (by omega) (by omega) ?_ ?_ ?_
        · first
            | (rw [if_pos (by omega)]; exact hwgh.1)
            | (rw [if_neg (by omega)]; exact ⟨fun y hy => mg_n (by omega) (ho y hy), l, m, f6, f8, mg_n (by omega) a5, mg_n (by omega) a6, mg_n (by omega) a8, hrc⟩)
        · first
            | exact ⟨_, hwgh.2.trans (mup_s _ _ _), by rw [fup_n _ _ _ (by omega), fup_n _ _ _ (by omega)]; exact t0, by rw [fup_n _ _ _ (by omega), fup_n _ _ _ (by omega)]; exact t1⟩
            | exact ⟨_, mup_s _ _ _, by rw [fup_n _ _ _ (by omega), fup_n _ _ _ (by omega)]; exact t0, by rw [fup_n _ _ _ (by omega), fup_n _ _ _ (by omega)]; exact t1⟩
        · exact h6
      · have hbT : bd4 (fup (fup T 2 c) 3 (p - c)) 100 := by
          unfold bd4
          rw [fup_n _ _ _ (by omega), fup_n _ _ _ (by omega), fup_n _ _ _ (by omega), fup_n _ _ _ (by omega), fup_n _ _ _ (by omega), fup_s, fup_s]
          omega
        have hwd : wor (dg (1000 * a + 100 * b + 10 * c + (p - c))) ≤ 48 := by
          obtain ⟨d0, d1, d2, d3⟩ := dg_n (a := a) (b := b) (c := c) (d := p - c) (by omega) (by omega) (by omega) (by omega)
          unfold wor
          rw [d0, d1, d2, d3]
          omega
        have hTd : ∀ j, 0 ≤ j → j < 4 → fup (fup T 2 c) 3 (p - c) j = dg (1000 * a + 100 * b + 10 * c + (p - c)) j := by
          intro j j0 j1
          obtain ⟨d0, d1, d2, d3⟩ := dg_n (a := a) (b := b) (c := c) (d := p - c) (by omega) (by omega) (by omega) (by omega)
          rcases (show j = 0 ∨ j = 1 ∨ j = 2 ∨ j = 3 by omega) with rfl | rfl | rfl | rfl
          · rw [fup_n _ _ _ (by omega), fup_n _ _ _ (by omega), d0]; exact t0
          · rw [fup_n _ _ _ (by omega), fup_n _ _ _ (by omega), d1]; exact t1
          · rw [fup_n _ _ _ (by omega), fup_s, d2]
          · rw [fup_s, d3]
        refine p_aload_n (pc := 43) C dX2_chooseRest_43 rfl ?_
        refine p_iload_n (pc := 44) C dX2_chooseRest_44 rfl ?_
        refine p_iload_n (pc := 45) C dX2_chooseRest_45 rfl ?_
        refine p_callVV (pc := 46) C ln_X2_38 dX2_chooseRest_46 (k_X2_weigh (by (repeat refine mg_n (by omega) ?_); first | assumption | exact mup_s _ _ _) (by (repeat refine mg_n (by omega) ?_); first | assumption | exact mup_s _ _ _) (mup_s _ _ _) (by (repeat refine mg_n (by omega) ?_); first | assumption | exact mup_s _ _ _) hnm hbT hr) ⟨by omega, by omega⟩ (by (repeat refine mg_n (by omega) ?_); first | assumption | exact mup_s _ _ _) rfl rfl rfl rfl (Nat.le_of_ble_eq_true rfl) (fun μ' hpost => ?_)
        obtain ⟨G, hpost⟩ := hpost
        have hwgh := SI_weigh (S := S1) (μ := μ0) (x := 1000 * a + 100 * b + 10 * c + (p - c)) (by omega) (by omega) hwd hnm hTd (fun y hy => mg_n (by omega) (ho y hy)) (mg_n (by omega) a5) (mg_n (by omega) a6) (mg_n (by omega) a8) hrc hpost
        refine p_iinc (pc := 49) (ls' := [(4, _), (0, _), (1, _), (2, _), (3, _)]) C dX2_chooseRest_49 (by decide) rfl ⟨by omega, by omega⟩ rfl ?_
        refine p_goto (pc := 52) (tgt := 3) C dX2_chooseRest_52 (by decide) ?_
        refine ih (c + 1) (if p - c ≤ 9 then wst nm r S1 (1000 * a + 100 * b + 10 * c + (p - c)) else S1) _ (by omega) (by omega) ?_ ?_ ?_
        · first
            | (rw [if_pos (by omega)]; exact hwgh.1)
            | (rw [if_neg (by omega)]; exact ⟨fun y hy => mg_n (by omega) (ho y hy), l, m, f6, f8, mg_n (by omega) a5, mg_n (by omega) a6, mg_n (by omega) a8, hrc⟩)
        · first
            | exact ⟨_, hwgh.2.trans (mup_s _ _ _), by rw [fup_n _ _ _ (by omega), fup_n _ _ _ (by omega)]; exact t0, by rw [fup_n _ _ _ (by omega), fup_n _ _ _ (by omega)]; exact t1⟩
            | exact ⟨_, mup_s _ _ _, by rw [fup_n _ _ _ (by omega), fup_n _ _ _ (by omega)]; exact t0, by rw [fup_n _ _ _ (by omega), fup_n _ _ _ (by omega)]; exact t1⟩
        · exact h6
  refine p_iconst (pc := 0) C dX2_chooseRest_0 (by decide) ?_
  refine p_istore (pc := 1) (ls' := [(4, _), (0, _), (1, _), (2, _), (3, _)]) C dX2_chooseRest_1 (by decide) rfl ?_
  exact L ((if 9 < p then 9 else p) + 1).toNat 0 S μ (by omega) (by omega) hS h7 rfl

theorem SI_7 {S : SS} {μ ν : Int → ME} (h : SI S μ ν) (o : ME) : SI S μ (mup ν 7 o) := by
  obtain ⟨ho, l, m, f6, f8, a5, a6, a8, hrc⟩ := h
  exact ⟨fun y hy => mg_n (by omega) (ho y hy), l, m, f6, f8, mg_n (by omega) a5, mg_n (by omega) a6, mg_n (by omega) a8, hrc⟩

set_option maxHeartbeats 4000000 in
set_option maxRecDepth 100000 in
theorem k_X2_choose {K : KX} {d : Nat} {μ : Int → ME} {p nm r l m : Int} {f6 T g : Int → Int} (h5 : μ 5 = oW l m) (h6 : μ 6 = mA 4 f6) (h7 : μ 7 = mA 4 T) (h8 : μ 8 = mA 4 g) (hp : 0 ≤ p ∧ p ≤ 12) (hnm : 0 ≤ nm ∧ nm < 4) (hr : 0 ≤ r ∧ r ≤ 1000) : Ct K (d + 5) yX2_choose cX2_choose 6 none [vR 5, vI p, vI nm, vI r] μ (pV (fun μ' => SI (chA p nm r 0 none ((if 9 < p then 9 else p) + 1).toNat) μ μ' ∧ ∃ T : Int → Int, μ' 7 = mA 4 T)) := by
  refine Ct.of (by decide) (Nat.le_of_ble_eq_true rfl) (fun X C => ?_)
  have LB0 : ∀ (a : Int) (S0 : SS), 0 ≤ a → a ≤ 9 → a ≤ p → (∀ (S1 : SS) (ν : Int → ME), S1 = chB a p nm r 0 S0 ((if 9 < p - a then 9 else p - a) + 1).toNat → SI S1 μ ν → (∃ T : Int → Int, ν 7 = mA 4 T) → PW K X 6 (QM K X (pV (fun μ' => SI (chA p nm r 0 none ((if 9 < p then 9 else p) + 1).toNat) μ μ' ∧ ∃ T : Int → Int, μ' 7 = mA 4 T))) 14 [(4, vI (a + 1)), (0, vR 5), (1, vI p), (2, vI nm), (3, vI r)] [] ν) → ∀ ν : Int → ME, SI S0 μ ν → (∃ T : Int → Int, ν 7 = mA 4 T ∧ T 0 = a) → PW K X 6 (QM K X (pV (fun μ' => SI (chA p nm r 0 none ((if 9 < p then 9 else p) + 1).toNat) μ μ' ∧ ∃ T : Int → Int, μ' 7 = mA 4 T))) 36 [(5, vI 0), (4, vI a), (0, vR 5), (1, vI p), (2, vI nm), (3, vI r)] [] ν := by
    intro a S0 ha0 ha9 hap kB
    have LB : ∀ (t : Nat) (b : Int) (S1 : SS) (ν : Int → ME), 0 ≤ b → (if 9 < p - a then 9 else p - a) + 1 - b = (t : Int) → SI S1 μ ν → (∃ T : Int → Int, ν 7 = mA 4 T ∧ T 0 = a) → chB a p nm r b S1 t = chB a p nm r 0 S0 ((if 9 < p - a then 9 else p - a) + 1).toNat → PW K X 6 (QM K X (pV (fun μ' => SI (chA p nm r 0 none ((if 9 < p then 9 else p) + 1).toNat) μ μ' ∧ ∃ T : Int → Int, μ' 7 = mA 4 T))) 36 [(5, vI b), (4, vI a), (0, vR 5), (1, vI p), (2, vI nm), (3, vI r)] [] ν := by
      intro t
      induction t with
      | zero =>
        intro b S1 ν h1 h2 h4 h5 h6
        obtain ⟨ho, l, m, f6, f8, a5, a6, a8, hrc⟩ := id h4
        obtain ⟨T, a7, t0⟩ := id h5
        refine p_iload (pc := 36) C dX2_choose_36 rfl ?_
        refine p_iload_n (pc := 38) C dX2_choose_38 rfl ?_
        refine p_iload (pc := 39) C dX2_choose_39 rfl ?_
        refine p_isub (pc := 41) C dX2_choose_41 ⟨by omega, by omega⟩ ?_
        refine p_bipush (pc := 42) C dX2_choose_42 (by decide) ?_
        refine p_min (pc := 44) C km_X2_28 dX2_choose_44 (Nat.le_of_ble_eq_true rfl) ?_
        refine p_icmp_gt (pc := 47) (tgt := 77) C dX2_choose_47 (by decide) (fun c_47 => ?_) (fun h => by exfalso; omega)
        refine p_iinc (pc := 77) (ls' := [(4, _), (5, _), (0, _), (1, _), (2, _), (3, _)]) C dX2_choose_77 (by decide) rfl ⟨by omega, by omega⟩ rfl ?_
        refine p_goto (pc := 80) (tgt := 14) C dX2_choose_80 (by decide) ?_
        refine p_pick [0, 2, 3, 4, 5] (ls' := [(4, _), (0, _), (1, _), (2, _), (3, _)]) rfl ?_
        exact kB S1 ν (by rw [← h6]; rfl) h4 ⟨T, a7⟩
      | succ t ih =>
        intro b S1 ν h1 h2 h4 h5 h6
        obtain ⟨ho, l, m, f6, f8, a5, a6, a8, hrc⟩ := id h4
        obtain ⟨T, a7, t0⟩ := id h5
        rw [chB] at h6
        refine p_iload (pc := 36) C dX2_choose_36 rfl ?_
        refine p_iload_n (pc := 38) C dX2_choose_38 rfl ?_
        refine p_iload (pc := 39) C dX2_choose_39 rfl ?_
        refine p_isub (pc := 41) C dX2_choose_41 ⟨by omega, by omega⟩ ?_
        refine p_bipush (pc := 42) C dX2_choose_42 (by decide) ?_
        refine p_min (pc := 44) C km_X2_28 dX2_choose_44 (Nat.le_of_ble_eq_true rfl) ?_
        refine p_icmp_gt (pc := 47) (tgt := 77) C dX2_choose_47 (by decide) (fun h => by exfalso; omega) (fun c_47 => ?_)
        refine p_aload_n (pc := 50) C dX2_choose_50 rfl ?_
        refine p_get (pc := 51) C fl_X2_15 dX2_choose_51 ⟨by omega, by omega⟩ (by (repeat refine mg_n (by omega) ?_); first | assumption | exact mup_s _ _ _) (by rfl) ?_
        refine p_iconst (pc := 54) C dX2_choose_54 (by decide) ?_
        refine p_iload (pc := 55) C dX2_choose_55 rfl ?_
        refine p_iast (pc := 57) C dX2_choose_57 ⟨by omega, by omega⟩ (by (repeat refine mg_n (by omega) ?_); first | assumption | exact mup_s _ _ _) (by omega) ?_
        try refine p_mem (mup_mup _ _ _ _) ?_
        refine p_aload_n (pc := 58) C dX2_choose_58 rfl ?_
        refine p_iload_n (pc := 59) C dX2_choose_59 rfl ?_
        refine p_iload (pc := 60) C dX2_choose_60 rfl ?_
        refine p_isub (pc := 62) C dX2_choose_62 ⟨by omega, by omega⟩ ?_
        refine p_iload (pc := 63) C dX2_choose_63 rfl ?_
        refine p_isub (pc := 65) C dX2_choose_65 ⟨by omega, by omega⟩ ?_
        refine p_iload_n (pc := 66) C dX2_choose_66 rfl ?_
        refine p_iload_n (pc := 67) C dX2_choose_67 rfl ?_
        refine p_callVV (pc := 68) C ln_X2_34 dX2_choose_68 (k_X2_chooseRest (a := a) (b := b) (S := S1) (μ0 := μ) (SI_7 h4 _) ⟨_, mup_s _ _ _, by rw [fup_n _ _ _ (by omega)]; exact t0, fup_s _ _ _⟩ (by omega) (by omega) hnm hr) ⟨by omega, by omega⟩ (by (repeat refine mg_n (by omega) ?_); first | assumption | exact mup_s _ _ _) rfl rfl rfl rfl (Nat.le_of_ble_eq_true rfl) (fun μ' hpost => ?_)
        refine p_iinc (pc := 71) (ls' := [(5, _), (4, _), (0, _), (1, _), (2, _), (3, _)]) C dX2_choose_71 (by decide) rfl ⟨by omega, by omega⟩ rfl ?_
        refine p_goto (pc := 74) (tgt := 36) C dX2_choose_74 (by decide) ?_
        exact ih (b + 1) _ _ (by omega) (by omega) hpost.1 (by obtain ⟨T2, q1, q2, q3⟩ := hpost.2; exact ⟨T2, q1, q2⟩) h6
    intro ν h4 h5
    exact LB ((if 9 < p - a then 9 else p - a) + 1).toNat 0 S0 ν (by omega) (by omega) h4 h5 rfl
  have L : ∀ (t : Nat) (a : Int) (S1 : SS) (ν : Int → ME), 0 ≤ a → (if 9 < p then 9 else p) + 1 - a = (t : Int) → SI S1 μ ν → (∃ T : Int → Int, ν 7 = mA 4 T) → chA p nm r a S1 t = chA p nm r 0 none ((if 9 < p then 9 else p) + 1).toNat → PW K X 6 (QM K X (pV (fun μ' => SI (chA p nm r 0 none ((if 9 < p then 9 else p) + 1).toNat) μ μ' ∧ ∃ T : Int → Int, μ' 7 = mA 4 T))) 14 [(4, vI a), (0, vR 5), (1, vI p), (2, vI nm), (3, vI r)] [] ν := by
    intro t
    induction t with
    | zero =>
      intro a S1 ν h1 h2 h4 h5 h6
      obtain ⟨ho, l, m, f6, f8, a5, a6, a8, hrc⟩ := id h4
      obtain ⟨T, a7⟩ := id h5
      refine p_iload (pc := 14) C dX2_choose_14 rfl ?_
      refine p_iload_n (pc := 16) C dX2_choose_16 rfl ?_
      refine p_bipush (pc := 17) C dX2_choose_17 (by decide) ?_
      refine p_min (pc := 19) C km_X2_28 dX2_choose_19 (Nat.le_of_ble_eq_true rfl) ?_
      refine p_icmp_gt (pc := 22) (tgt := 83) C dX2_choose_22 (by decide) (fun c_22 => ?_) (fun h => by exfalso; omega)
      refine p_vret (pc := 83) C dX2_choose_83 ?_
      exact ⟨rfl, by rw [← h6]; exact h4, h5⟩
    | succ t ih =>
      intro a S1 ν h1 h2 h4 h5 h6
      obtain ⟨ho, l, m, f6, f8, a5, a6, a8, hrc⟩ := id h4
      obtain ⟨T, a7⟩ := id h5
      rw [chA] at h6
      refine p_iload (pc := 14) C dX2_choose_14 rfl ?_
      refine p_iload_n (pc := 16) C dX2_choose_16 rfl ?_
      refine p_bipush (pc := 17) C dX2_choose_17 (by decide) ?_
      refine p_min (pc := 19) C km_X2_28 dX2_choose_19 (Nat.le_of_ble_eq_true rfl) ?_
      refine p_icmp_gt (pc := 22) (tgt := 83) C dX2_choose_22 (by decide) (fun h => by exfalso; omega) (fun c_22 => ?_)
      refine p_aload_n (pc := 25) C dX2_choose_25 rfl ?_
      refine p_get (pc := 26) C fl_X2_15 dX2_choose_26 ⟨by omega, by omega⟩ (by (repeat refine mg_n (by omega) ?_); first | assumption | exact mup_s _ _ _) (by rfl) ?_
      refine p_iconst (pc := 29) C dX2_choose_29 (by decide) ?_
      refine p_iload (pc := 30) C dX2_choose_30 rfl ?_
      refine p_iast (pc := 32) C dX2_choose_32 ⟨by omega, by omega⟩ (by (repeat refine mg_n (by omega) ?_); first | assumption | exact mup_s _ _ _) (by omega) ?_
      try refine p_mem (mup_mup _ _ _ _) ?_
      refine p_iconst (pc := 33) C dX2_choose_33 (by decide) ?_
      refine p_istore (pc := 34) (ls' := [(5, _), (4, _), (0, _), (1, _), (2, _), (3, _)]) C dX2_choose_34 (by decide) rfl ?_
      exact LB0 a S1 h1 (by omega) (by omega) (fun S2 ν2 e2 g4 g5 => ih (a + 1) S2 ν2 (by omega) (by omega) g4 g5 (by rw [e2]; exact h6)) _ (SI_7 h4 _) ⟨_, mup_s _ _ _, fup_s _ _ _⟩
  refine p_aload_n (pc := 0) C dX2_choose_0 rfl ?_
  refine p_bipush (pc := 1) C dX2_choose_1 (by decide) ?_
  refine p_putL (pc := 3) (fs' := [_, _, _, _, _]) C fp_X2_21 dX2_choose_3 ⟨by omega, by omega⟩ (by (repeat refine mg_n (by omega) ?_); first | assumption | exact mup_s _ _ _) (by exact Nat.le_of_ble_eq_true rfl) (by rfl) ?_
  try refine p_mem (mup_mup _ _ _ _) ?_
  refine p_aload_n (pc := 6) C dX2_choose_6 rfl ?_
  refine p_iconst (pc := 7) C dX2_choose_7 (by decide) ?_
  refine p_putL (pc := 8) (fs' := [_, _, _, _, _]) C fp_X2_25 dX2_choose_8 ⟨by omega, by omega⟩ (by (repeat refine mg_n (by omega) ?_); first | assumption | exact mup_s _ _ _) (by exact Nat.le_of_ble_eq_true rfl) (by rfl) ?_
  try refine p_mem (mup_mup _ _ _ _) ?_
  refine p_iconst (pc := 11) C dX2_choose_11 (by decide) ?_
  refine p_istore (pc := 12) (ls' := [(4, _), (0, _), (1, _), (2, _), (3, _)]) C dX2_choose_12 (by decide) rfl ?_
  exact L ((if 9 < p then 9 else p) + 1).toNat 0 none _ (by omega) (by omega) ⟨fun y hy => mg_n (by omega) rfl, _, _, f6, g, mup_s _ _ _, mg_n (by omega) h6, mg_n (by omega) h8, by first | rfl | (show (_ : Int) = 49; decide +kernel)⟩ ⟨T, mg_n (by omega) h7⟩ rfl
