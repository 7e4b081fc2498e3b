/-- the same text, read at two places -/
theorem cpN_c {G F : Int → Int} {fs i n : Int} (h : ∀ j, 0 ≤ j → j < n → G (fs + j) = F (i + j)) : ∀ (t : Nat) (p : Int), 0 ≤ p → cpN G fs n p t = cpN F i n p t
  | 0, p, _ => rfl
  | t + 1, p, hp => by
    rw [cpN, cpN]
    by_cases c : 1 + p < n
    · rw [show fs + 1 + p = fs + (1 + p) by omega, show i + 1 + p = i + (1 + p) by omega, h (1 + p) (by omega) c, cpN_c h t (p + 1) (by omega)]
    · rw [if_neg (fun z => c z.1), if_neg (fun z => c z.1)]
theorem csN_c {G F : Int → Int} {fs i n pl q : Int} (h : ∀ j, 0 ≤ j → j < n → G (fs + j) = F (i + j)) (h0 : 0 ≤ pl) : ∀ (t : Nat) (p : Int), 0 ≤ p → csN G (fs + pl) (n - pl) q p t = csN F (i + pl) (n - pl) q p t
  | 0, p, _ => rfl
  | t + 1, p, hp => by
    rw [csN, csN]
    by_cases c : p < n - pl
    · rw [show fs + pl + p = fs + (pl + p) by omega, show i + pl + p = i + (pl + p) by omega, h (pl + p) (by omega) (by omega), csN_c h h0 t (p + 1) (by omega)]
    · rw [if_neg (fun z => c z.1), if_neg (fun z => c z.1)]
theorem ffN_c {G F : Int → Int} {fs i n q : Int} (h : ∀ j, 0 ≤ j → j < n → G (fs + j) = F (i + j)) : ∀ (t : Nat) (pl k : Int), 0 ≤ pl → ffN G fs n q pl k t = ffN F i n q pl k t
  | 0, pl, k, _ => rfl
  | t + 1, pl, k, hp => by
    have hr := csN_r F (i + pl) (n - pl) q 9 0
    rw [ffN, ffN, csN_c h hp 9 0 (by omega), ffN_c h t _ (k + 1) (show 0 ≤ pl + csN F (i + pl) (n - pl) q 0 9 by omega)]
theorem ffT_c {G F : Int → Int} {fs i n : Int} (h : ∀ j, 0 ≤ j → j < n → G (fs + j) = F (i + j)) : ffT G fs n = ffT F i n := by
  have hr := cpN_r F i n 6 0
  unfold ffT
  by_cases c : n < 1
  · rw [if_pos (Or.inl c), if_pos (Or.inl c)]
  · have e := h 0 (by omega) (by omega)
    rw [Int.add_zero, Int.add_zero] at e
    rw [e, cpN_c h 6 0 (by omega), ffN_c h 5 _ 0 (by omega)]

theorem ffN_b (F : Int → Int) (fr n q : Int) : ∀ (t : Nat) (pl k : Int), 0 ≤ pl → -9 ≤ ffN F fr n q pl k t ∧ ffN F fr n q pl k t ≤ pl + 9 * (t : Int)
  | 0, pl, k, h => by rw [ffN]; split <;> omega
  | t + 1, pl, k, h => by
    have hr := csN_r F (fr + pl) (n - pl) q 9 0
    have := ffN_b F fr n q t (pl + csN F (fr + pl) (n - pl) q 0 9) (k + 1) (by omega)
    rw [ffN]; split
    · omega
    · split
      · omega
      · push_cast; omega
theorem ffT_b {F : Int → Int} {fr n : Int} : -9 ≤ ffT F fr n ∧ ffT F fr n ≤ 100 := by
  have hr := cpN_r F fr n 6 0
  have hb := ffN_b F fr n (cpN F fr n 0 6) 5 (1 + cpN F fr n 0 6) 0 (by omega)
  unfold ffT; split
  · omega
  · split <;> omega

theorem MV_sea {np ns day nr tr fl : Int} {rg kd nm sg pt : Int → Int} {ca : Int → Int → Int} {rs rp rl th la ln : Int → Int} {ce : Int → Int → Int} {μ μ1 ν : Int → ME} {s i n q k fs at_ lp lw lf sL sF : Int} {G a g2 g3 : Int → Int} (h : MV np ns day nr tr fl rg kd nm sg pt ca rs rp rl th la ln ce μ) (hG : ∀ j, 0 ≤ j → j < n → G (fs + j) = (cAt (ln s) (ce s)) (i + j)) (hq : q = cpN (cAt (ln s) (ce s)) i n 0 6) (hok : okT G fs n q k)
    (hg2 : ∀ j, 0 ≤ j → j < q → g2 j = G (fs + 1 + j) - 48) (hRK : RK G fs q g3 k) (ha : ∀ j, 0 ≤ j → j < q → a j = g2 j) (hT : TQ μ1 g3 k ν)
    (k42 : μ1 42 = oM 0 tr q k 0 at_ q k lp lw lf sL sF 0) (k46 : μ1 46 = mA 6 a) (k52 : μ1 52 = mA 6 g2) (k53 : μ1 53 = mA 40 g3) (ko : ∀ x, x ≠ 42 → x ≠ 46 → x ≠ 52 → x ≠ 53 → μ1 x = μ x) : MV (cpN (cAt (ln s) (ce s)) i n 0 6) ((n - 1 - cpN (cAt (ln s) (ce s)) i n 0 6) / 9) (0) (0) tr (0) (tkR (cAt (ln s) (ce s)) i rg (cpN (cAt (ln s) (ce s)) i n 0 6)) (tkK (cAt (ln s) (ce s)) i (cpN (cAt (ln s) (ce s)) i n 0 6) kd ((n - 1 - cpN (cAt (ln s) (ce s)) i n 0 6) / 9)) (tkS (cAt (ln s) (ce s)) i (cpN (cAt (ln s) (ce s)) i n 0 6) 2 nm ((n - 1 - cpN (cAt (ln s) (ce s)) i n 0 6) / 9)) (tkS (cAt (ln s) (ce s)) i (cpN (cAt (ln s) (ce s)) i n 0 6) 3 sg ((n - 1 - cpN (cAt (ln s) (ce s)) i n 0 6) / 9)) (tkS (cAt (ln s) (ce s)) i (cpN (cAt (ln s) (ce s)) i n 0 6) 4 pt ((n - 1 - cpN (cAt (ln s) (ce s)) i n 0 6) / 9)) (tkC (cAt (ln s) (ce s)) i (cpN (cAt (ln s) (ce s)) i n 0 6) ca ((n - 1 - cpN (cAt (ln s) (ce s)) i n 0 6) / 9)) rs rp rl th la ln ce ν := by
  obtain ⟨m42, m43, m44, m45, mB, mD, ⟨m52, m53, m54, m55, m56⟩, m57, m58, m59⟩ := h
  obtain ⟨⟨q7, q8, q9, r0, r1, v7, v8, v9, w0, w1, hu⟩, vo⟩ := hT
  obtain ⟨o1, o2, o3, o4, o5, o6⟩ := hok
  have hM : (n - 1 - cpN (cAt (ln s) (ce s)) i n 0 6) / 9 = k := by rw [← hq]; omega
  rw [hM, ← hq]
  have key : ∀ x, 0 ≤ x → x < k → ∀ j, 0 ≤ j → j < 9 → G (fs + (1 + q + 9 * x) + j) = (cAt (ln s) (ce s)) (i + (1 + q + 9 * x) + j) := fun x x0 x1 j j0 j1 => by
    rw [show fs + (1 + q + 9 * x) + j = fs + ((1 + q + 9 * x) + j) by omega, show i + (1 + q + 9 * x) + j = i + ((1 + q + 9 * x) + j) by omega]; exact hG _ (by omega) (by omega)
  have ka : ∀ x, 0 ≤ x → x < k → ∀ j, 1 ≤ j → j < 8 → g3 (8 * x + j) = (cAt (ln s) (ce s)) (i + (1 + q + 9 * x) + (j + 1)) - 48 := fun x x0 x1 j j0 j1 => by
    rw [(hRK x x0 x1).2 j j0 j1, show fs + (1 + q + 9 * x) + 1 + j = fs + (1 + q + 9 * x) + (j + 1) by omega, key x x0 x1 (j + 1) (by omega) (by omega)]
  refine ⟨⟨at_, q, k, lp, lw, lf, sL, sF, (vo 42 (by omega) (by omega) (by omega) (by omega) (by omega)).trans k42⟩, ?_, ?_, ?_, ⟨⟨a, (vo 46 (by omega) (by omega) (by omega) (by omega) (by omega)).trans k46, fun p p0 p1 => ?_⟩, ⟨q7, v7, fun x x0 x1 => ?_⟩, ⟨q8, v8, fun x x0 x1 => ?_⟩, ⟨q9, v9, fun x x0 x1 => ?_⟩⟩, ⟨r0, r1, w0, w1, fun x x0 x1 => ⟨?_, fun g h0 h1 => ?_⟩⟩, ⟨⟨_, (vo 52 (by omega) (by omega) (by omega) (by omega) (by omega)).trans k52⟩, ⟨_, (vo 53 (by omega) (by omega) (by omega) (by omega) (by omega)).trans k53⟩, ?_, ?_, ?_⟩, m57.imp fun f hf => ⟨((vo 57 (by omega) (by omega) (by omega) (by omega) (by omega)).trans (ko 57 (by omega) (by omega) (by omega) (by omega))).trans hf.1, fun i i0 i1 => by omega⟩, m58.imp fun f hf => ⟨((vo 58 (by omega) (by omega) (by omega) (by omega) (by omega)).trans (ko 58 (by omega) (by omega) (by omega) (by omega))).trans hf.1, fun i i0 i1 => by omega⟩, m59.imp fun f hf => ⟨((vo 59 (by omega) (by omega) (by omega) (by omega) (by omega)).trans (ko 59 (by omega) (by omega) (by omega) (by omega))).trans hf.1, fun i i0 i1 => by omega⟩⟩
  · rw [vo 43 (by omega) (by omega) (by omega) (by omega) (by omega), ko 43 (by omega) (by omega) (by omega) (by omega)]; exact m43
  · rw [vo 44 (by omega) (by omega) (by omega) (by omega) (by omega), ko 44 (by omega) (by omega) (by omega) (by omega)]; exact m44
  · rw [vo 45 (by omega) (by omega) (by omega) (by omega) (by omega), ko 45 (by omega) (by omega) (by omega) (by omega)]; exact m45
  · unfold tkR; rw [if_pos ⟨p0, p1⟩, ha p p0 p1, hg2 p p0 p1, show fs + 1 + p = fs + (1 + p) by omega, hG (1 + p) (by omega) (by omega), show i + 1 + p = i + (1 + p) by omega]
  · unfold tkK; rw [if_pos ⟨x0, x1⟩, (hu x x0 x1).1.1, (hRK x x0 x1).1, key x x0 x1 1 (by omega) (by omega)]
  · unfold tkS; rw [if_pos ⟨x0, x1⟩, (hu x x0 x1).1.2.1]; exact ka x x0 x1 1 (by omega) (by omega)
  · unfold tkS; rw [if_pos ⟨x0, x1⟩, (hu x x0 x1).1.2.2.1]; exact ka x x0 x1 2 (by omega) (by omega)
  · show _ = tkS _ _ _ _ _ _ x; unfold tkS; rw [if_pos ⟨x0, x1⟩, (hu x x0 x1).1.2.2.2]; exact ka x x0 x1 3 (by omega) (by omega)
  · show _ = tkC _ _ _ _ _ x g; unfold tkC; rw [if_pos ⟨x0, x1⟩, (hu x x0 x1).2 g h0 h1]
    have kk := ka x x0 x1 (4 + g) (by omega) (by omega)
    rw [show 8 * x + 4 + g = 8 * x + (4 + g) by omega, kk]
    rcases (show g = 0 ∨ g = 1 ∨ g = 2 ∨ g = 3 by omega) with rfl | rfl | rfl | rfl
    · rw [fup_n _ _ _ (by omega), fup_n _ _ _ (by omega), fup_n _ _ _ (by omega), fup_s]; congr 2; omega
    · rw [fup_n _ _ _ (by omega), fup_n _ _ _ (by omega), fup_s]; congr 2; omega
    · rw [fup_n _ _ _ (by omega), fup_s]; congr 2; omega
    · rw [fup_s]; congr 2; omega
  · rw [vo 54 (by omega) (by omega) (by omega) (by omega) (by omega), ko 54 (by omega) (by omega) (by omega) (by omega)]; exact m54
  · rw [vo 55 (by omega) (by omega) (by omega) (by omega) (by omega), ko 55 (by omega) (by omega) (by omega) (by omega)]; exact m55
  · rw [vo 56 (by omega) (by omega) (by omega) (by omega) (by omega), ko 56 (by omega) (by omega) (by omega) (by omega)]; exact m56

set_option maxHeartbeats 4000000 in
set_option maxRecDepth 100000 in
theorem q_X5_sea {K : KX} {d : Nat} {μ : Int → ME} {s l i n : Int} {np ns day nr tr fl : Int} {rg kd nm sg pt : Int → Int} {ca : Int → Int → Int} {rs rp rl th la ln : Int → Int} {ce : Int → Int → Int} (hV : MV np ns day nr tr fl rg kd nm sg pt ca rs rp rl th la ln ce μ) (hW : WF np ns day nr tr fl rg kd nm sg pt ca rs rp rl th la ln ce) : Ct K (d + 4) yX5_sea cX5_sea 7 (some .int) [vR 42, vI s, vI l, vI i, vI n] μ (fun r μ' => (∀ a, a < 42 → μ' a = μ a) ∧ (if ¬ (0 ≤ s ∧ s < 4) then r = some (vI (-1)) ∧ MV np ns day nr tr (0) rg kd nm sg pt ca rs rp rl th la ln ce μ' else if ¬ (0 ≤ l ∧ l < 3) then r = some (vI (-2)) ∧ MV np ns day nr tr (0) rg kd nm sg pt ca rs rp rl th la ln ce μ' else if fot (th s) (la s) (ln s) l i n ≠ 0 then r = some (vI (-10 - fot (th s) (la s) (ln s) l i n)) ∧ MV np ns day nr tr (fot (th s) (la s) (ln s) l i n) rg kd nm sg pt ca rs rp rl th la ln ce μ' else if ffT (cAt (ln s) (ce s)) i n ≠ -9 then r = some (vI (-100 - ffT (cAt (ln s) (ce s)) i n)) ∧ MV np ns day nr tr (0) rg kd nm sg pt ca rs rp rl th la ln ce μ' else r = some (vI ((n - 1 - cpN (cAt (ln s) (ce s)) i n 0 6) / 9)) ∧ MV (cpN (cAt (ln s) (ce s)) i n 0 6) ((n - 1 - cpN (cAt (ln s) (ce s)) i n 0 6) / 9) (0) (0) tr (0) (tkR (cAt (ln s) (ce s)) i rg (cpN (cAt (ln s) (ce s)) i n 0 6)) (tkK (cAt (ln s) (ce s)) i (cpN (cAt (ln s) (ce s)) i n 0 6) kd ((n - 1 - cpN (cAt (ln s) (ce s)) i n 0 6) / 9)) (tkS (cAt (ln s) (ce s)) i (cpN (cAt (ln s) (ce s)) i n 0 6) 2 nm ((n - 1 - cpN (cAt (ln s) (ce s)) i n 0 6) / 9)) (tkS (cAt (ln s) (ce s)) i (cpN (cAt (ln s) (ce s)) i n 0 6) 3 sg ((n - 1 - cpN (cAt (ln s) (ce s)) i n 0 6) / 9)) (tkS (cAt (ln s) (ce s)) i (cpN (cAt (ln s) (ce s)) i n 0 6) 4 pt ((n - 1 - cpN (cAt (ln s) (ce s)) i n 0 6) / 9)) (tkC (cAt (ln s) (ce s)) i (cpN (cAt (ln s) (ce s)) i n 0 6) ca ((n - 1 - cpN (cAt (ln s) (ce s)) i n 0 6) / 9)) rs rp rl th la ln ce μ')) := by
  refine Ct.of (by decide) (Nat.le_of_ble_eq_true rfl) (fun X C => ?_)
  obtain ⟨m42, m43, m44, m45, mB, mD, ⟨m52, m53, m54, m55, m56⟩, m57, m58, m59⟩ := id hV
  obtain ⟨m46, m47, m48, m49⟩ := id mB
  obtain ⟨at_, rP, rS, lp, lw, lf, sL, sF, h0⟩ := id m42
  obtain ⟨f43, h43, e43⟩ := id m43
  obtain ⟨f44, h44, e44⟩ := id m44
  obtain ⟨f45, h45, e45⟩ := id m45
  obtain ⟨f46, h46, e46⟩ := id m46
  obtain ⟨f47, h47, e47⟩ := id m47
  obtain ⟨f48, h48, e48⟩ := id m48
  obtain ⟨f49, h49, e49⟩ := id m49
  obtain ⟨pf, cf, h50, h51, hMR⟩ := id mD
  obtain ⟨f57, h57, e57⟩ := id m57
  obtain ⟨f58, h58, e58⟩ := id m58
  obtain ⟨f59, h59, e59⟩ := id m59
  obtain ⟨w0, w1, w2, w3, w4, w5, w6⟩ := id hW
  obtain ⟨f52, h52⟩ := id m52
  obtain ⟨f53, h53⟩ := id m53
  refine p_aload_n (pc := 0) C dX5_sea_0 rfl ?_
  refine p_iconst (pc := 1) C dX5_sea_1 (by decide) ?_
  refine p_putL (pc := 2) (fs' := [_, _, _, _, _, _, _, _, _, _, _, _, _, _, _, _, _, _, _, _, _, _, _, _, _, _, _, _, _, _, _]) C fp_X5_61 dX5_sea_2 ⟨by omega, by omega⟩ (by (repeat refine mg_n (by omega) ?_); first | assumption | exact mup_s _ _ _) (by exact Nat.le_of_ble_eq_true rfl) (by rfl) ?_
  try refine p_mem (mup_mup _ _ _ _) ?_
  refine p_iload_n (pc := 5) C dX5_sea_5 rfl ?_
  refine p_callSF (pc := 6) C ln_X5_80 dX5_sea_6 (k_X5_isSheet) rfl rfl (Nat.le_of_ble_eq_true rfl) ?_
  refine p_ifne_b (pc := 9) (tgt := 14) C dX5_sea_9 (by decide) (fun c_9 => ?_) (fun c_9 => ?_)
  · refine p_iload_n (pc := 14) C dX5_sea_14 rfl ?_
    refine p_callSF (pc := 15) C ln_X5_84 dX5_sea_15 (k_X5_isSort) rfl rfl (Nat.le_of_ble_eq_true rfl) ?_
    refine p_ifne_b (pc := 18) (tgt := 24) C dX5_sea_18 (by decide) (fun c_18 => ?_) (fun c_18 => ?_)
    · refine p_aload_n (pc := 24) C dX5_sea_24 rfl ?_
      refine p_iload_n (pc := 25) C dX5_sea_25 rfl ?_
      refine p_iload_n (pc := 26) C dX5_sea_26 rfl ?_
      refine p_iload_n (pc := 27) C dX5_sea_27 rfl ?_
      refine p_iload (pc := 28) C dX5_sea_28 rfl ?_
      refine p_callVF (pc := 30) C ln_X5_87 dX5_sea_30 (k_X5_against (by (repeat refine mg_n (by omega) ?_); first | assumption | exact mup_s _ _ _) (by (repeat refine mg_n (by omega) ?_); first | assumption | exact mup_s _ _ _) (by (repeat refine mg_n (by omega) ?_); first | assumption | exact mup_s _ _ _) (by omega) (fun hq => by have q3 := e43 s (by omega) (by omega); have q4 := e44 s (by omega) (by omega); obtain ⟨y1, y2, y3⟩ := w6 s (by omega) (by omega); omega)) ⟨by omega, by omega⟩ (by (repeat refine mg_n (by omega) ?_); first | assumption | exact mup_s _ _ _) rfl rfl rfl rfl (Nat.le_of_ble_eq_true rfl) ?_
      refine p_top (ag_fot (e43 s (by omega) (by omega)) (e44 s (by omega) (by omega)) (by omega) (w6 s (by omega) (by omega)).2.1 (w6 s (by omega) (by omega)).1) ?_
      have hfr := @fot_r (th s) (la s) (ln s) l i n
      refine p_istore (pc := 33) (ls' := [(5, _), (0, _), (1, _), (2, _), (3, _), (4, _)]) C dX5_sea_33 (by decide) rfl ?_
      refine p_iload (pc := 35) C dX5_sea_35 rfl ?_
      refine p_if_eq (pc := 37) (tgt := 47) C dX5_sea_37 (by decide) (fun c_37 => ?_) (fun c_37 => ?_)
      · have hz := fot_0 (show fot (th s) (la s) (ln s) l i n = 0 by omega)
        have q4 := e44 s (by omega) (by omega)
        obtain ⟨y1, y2, y3⟩ := w6 s (by omega) (by omega)
        have hG : ∀ j, 0 ≤ j → j < n → f45 (60 * s + i + j) = cAt (ln s) (ce s) (i + j) := fun j j0 j1 => by
          unfold cAt; rw [if_pos (by omega), show 60 * s + i + j = 60 * s + (i + j) by omega]; exact e45 s (by omega) (by omega) (by omega) (i + j) (by omega) (by omega)
        have hft := ffT_c hG
        have hcp := cpN_c hG 6 0 (by omega)
        refine p_bipush (pc := 47) C dX5_sea_47 (by decide) ?_
        refine p_iload_n (pc := 49) C dX5_sea_49 rfl ?_
        refine p_imul (pc := 50) C dX5_sea_50 ⟨by omega, by omega⟩ ?_
        refine p_iload_n (pc := 51) C dX5_sea_51 rfl ?_
        refine p_iadd (pc := 52) C dX5_sea_52 ⟨by omega, by omega⟩ ?_
        refine p_istore (pc := 53) (ls' := [(6, _), (5, _), (0, _), (1, _), (2, _), (3, _), (4, _)]) C dX5_sea_53 (by decide) rfl ?_
        refine p_aload_n (pc := 55) C dX5_sea_55 rfl ?_
        refine p_iload (pc := 56) C dX5_sea_56 rfl ?_
        refine p_putL (pc := 58) (fs' := [_, _, _, _, _, _, _, _, _, _, _, _, _, _, _, _, _, _, _, _, _, _, _, _, _, _, _, _, _, _, _]) C fp_X5_77 dX5_sea_58 ⟨by omega, by omega⟩ (by (repeat refine mg_n (by omega) ?_); first | assumption | exact mup_s _ _ _) (by exact Nat.le_of_ble_eq_true rfl) (by rfl) ?_
        try refine p_mem (mup_mup _ _ _ _) ?_
        refine p_aload_n (pc := 61) C dX5_sea_61 rfl ?_
        refine p_iload (pc := 62) C dX5_sea_62 rfl ?_
        refine p_iload (pc := 64) C dX5_sea_64 rfl ?_
        refine p_iadd (pc := 66) C dX5_sea_66 ⟨by omega, by omega⟩ ?_
        refine p_callVE (pc := 67) C ln_X5_95 dX5_sea_67 (k_X5_readSea (fs := 60 * s + i) (n := n) (by (repeat refine mg_n (by omega) ?_); first | assumption | exact mup_s _ _ _) rfl (by (repeat refine mg_n (by omega) ?_); first | assumption | exact mup_s _ _ _) (by (repeat refine mg_n (by omega) ?_); first | assumption | exact mup_s _ _ _) (by (repeat refine mg_n (by omega) ?_); first | assumption | exact mup_s _ _ _) rfl (by omega)) ⟨by omega, by omega⟩ (by (repeat refine mg_n (by omega) ?_); first | assumption | exact mup_s _ _ _) rfl rfl rfl rfl (Nat.le_of_ble_eq_true rfl) (fun μ' hpost => ?_)
        obtain ⟨x, q, k, g2, g3, rfl, hx, hk⟩ := hpost
        refine p_mem (by rw [mup_mup]) ?_
        refine p_ifne_b (pc := 70) (tgt := 84) C dX5_sea_70 (by decide) (fun c_70 => ?_) (fun c_70 => ?_)
        · have hk := hk c_70
          obtain ⟨⟨o1, o2⟩, ⟨o3, o4⟩, o5⟩ := id hk.2.1
          refine p_aload_n (pc := 84) C dX5_sea_84 rfl ?_
          refine p_callVV (pc := 85) C ln_X5_98 dX5_sea_85 (k_X5_takeSea (g2 := g2) (g3 := g3) (by (repeat refine mg_n (by omega) ?_); first | assumption | exact mup_s _ _ _) (by omega) (by omega) (by (repeat refine mg_n (by omega) ?_); first | assumption | exact mup_s _ _ _) (by (repeat refine mg_n (by omega) ?_); first | assumption | exact mup_s _ _ _) (by (repeat refine mg_n (by omega) ?_); first | assumption | exact mup_s _ _ _) (by (repeat refine mg_n (by omega) ?_); first | assumption | exact mup_s _ _ _) (by (repeat refine mg_n (by omega) ?_); first | assumption | exact mup_s _ _ _) (by (repeat refine mg_n (by omega) ?_); first | assumption | exact mup_s _ _ _) (by (repeat refine mg_n (by omega) ?_); first | assumption | exact mup_s _ _ _) (by (repeat refine mg_n (by omega) ?_); first | assumption | exact mup_s _ _ _)) ⟨by omega, by omega⟩ (by (repeat refine mg_n (by omega) ?_); first | assumption | exact mup_s _ _ _) rfl rfl rfl rfl (Nat.le_of_ble_eq_true rfl) (fun μ' hpost => ?_)
          obtain ⟨a, ha, hT⟩ := hpost
          obtain ⟨-, vo⟩ := id hT
          have v42 := vo 42 (by omega) (by omega) (by omega) (by omega) (by omega)
          rw [mup_n _ _ _ (show (42 : Int) ≠ 46 by omega), mup_s] at v42
          refine p_aload_n (pc := 88) C dX5_sea_88 rfl ?_
          refine p_get (pc := 89) C fl_X5_71 dX5_sea_89 ⟨by omega, by omega⟩ (by (repeat refine mg_n (by omega) ?_); first | assumption | exact mup_s _ _ _) (by rfl) ?_
          refine p_iret (pc := 92) C dX5_sea_92 ?_
          first
            | (exfalso; omega)
            | (refine ⟨fun q hq => by (repeat (refine mg_n (by omega) ?_)); rfl, ?_⟩; rw [if_pos (by omega)]; exact ⟨rfl, MV_42 hV (by omega)⟩)
            | (refine ⟨fun q hq => by (repeat (refine mg_n (by omega) ?_)); rfl, ?_⟩; rw [if_neg (by omega), if_pos (by omega)]; exact ⟨rfl, MV_42 hV (by omega)⟩)
            | (refine ⟨fun q hq => by (repeat (refine mg_n (by omega) ?_)); rfl, ?_⟩; rw [if_neg (by omega), if_neg (by omega), if_pos (by omega)]; exact ⟨rfl, MV_42 hV (by omega)⟩)
            | (refine ⟨fun z hz => mg_n (by omega) (mg_n (by omega) (mg_n (by omega) rfl)), ?_⟩
               rw [if_neg (by omega), if_neg (by omega), if_neg (by omega), if_pos (by omega)]
               exact ⟨sv (by have := hx c_70; omega), MV_53 (MV_52 (MV_42 hV (by omega)))⟩)
            | (refine ⟨fun z hz => ?_, ?_⟩
               · rw [vo z (by omega) (by omega) (by omega) (by omega) (by omega)]; exact mg_n (by omega) (mg_n (by omega) (mg_n (by omega) (mg_n (by omega) (mg_n (by omega) rfl))))
               · rw [if_neg (by omega), if_neg (by omega), if_neg (by omega), if_neg (by omega)]
                 have hq1 : q = cpN (cAt (ln s) (ce s)) i n 0 6 := hk.1.trans hcp
                 refine ⟨sv ?_, MV_sea (fs := 60 * s + i) hV hG hq1 hk.2.1 hk.2.2.1 hk.2.2.2 ha hT (mg_n (by omega) (mup_s _ _ _)) (mup_s _ _ _) (by (repeat refine mg_n (by omega) ?_); first | assumption | exact mup_s _ _ _) (by (repeat refine mg_n (by omega) ?_); first | assumption | exact mup_s _ _ _) (fun z z0 z1 z2 z3 => mg_n z1 (mg_n z0 (mg_n z3 (mg_n z2 (mg_n z0 rfl)))))⟩
                 have := hk.2.1.2.2.1
                 rw [← hq1]; omega)
        · have hfr2 := ffT_b (F := f45) (fr := 60 * s + i) (n := n)
          have hx2 := hx c_70
          refine p_bipush (pc := 73) C dX5_sea_73 (by decide) ?_
          refine p_aload_n (pc := 75) C dX5_sea_75 rfl ?_
          refine p_get (pc := 76) C fl_X5_77 dX5_sea_76 ⟨by omega, by omega⟩ (by (repeat refine mg_n (by omega) ?_); first | assumption | exact mup_s _ _ _) (by rfl) ?_
          refine p_iload (pc := 79) C dX5_sea_79 rfl ?_
          refine p_isub (pc := 81) C dX5_sea_81 ⟨by omega, by omega⟩ ?_
          refine p_isub (pc := 82) C dX5_sea_82 ⟨by omega, by omega⟩ ?_
          refine p_iret (pc := 83) C dX5_sea_83 ?_
          first
            | (exfalso; omega)
            | (refine ⟨fun q hq => by (repeat (refine mg_n (by omega) ?_)); rfl, ?_⟩; rw [if_pos (by omega)]; exact ⟨rfl, MV_42 hV (by omega)⟩)
            | (refine ⟨fun q hq => by (repeat (refine mg_n (by omega) ?_)); rfl, ?_⟩; rw [if_neg (by omega), if_pos (by omega)]; exact ⟨rfl, MV_42 hV (by omega)⟩)
            | (refine ⟨fun q hq => by (repeat (refine mg_n (by omega) ?_)); rfl, ?_⟩; rw [if_neg (by omega), if_neg (by omega), if_pos (by omega)]; exact ⟨rfl, MV_42 hV (by omega)⟩)
            | (refine ⟨fun z hz => mg_n (by omega) (mg_n (by omega) (mg_n (by omega) rfl)), ?_⟩
               rw [if_neg (by omega), if_neg (by omega), if_neg (by omega), if_pos (by omega)]
               exact ⟨sv (by have := hx c_70; omega), MV_53 (MV_52 (MV_42 hV (by omega)))⟩)
            | (refine ⟨fun z hz => ?_, ?_⟩
               · rw [vo z (by omega) (by omega) (by omega) (by omega) (by omega)]; exact mg_n (by omega) (mg_n (by omega) (mg_n (by omega) (mg_n (by omega) (mg_n (by omega) rfl))))
               · rw [if_neg (by omega), if_neg (by omega), if_neg (by omega), if_neg (by omega)]
                 have hq1 : q = cpN (cAt (ln s) (ce s)) i n 0 6 := hk.1.trans hcp
                 refine ⟨sv ?_, MV_sea (fs := 60 * s + i) hV hG hq1 hk.2.1 hk.2.2.1 hk.2.2.2 ha hT (mg_n (by omega) (mup_s _ _ _)) (mup_s _ _ _) (by (repeat refine mg_n (by omega) ?_); first | assumption | exact mup_s _ _ _) (by (repeat refine mg_n (by omega) ?_); first | assumption | exact mup_s _ _ _) (fun z z0 z1 z2 z3 => mg_n z1 (mg_n z0 (mg_n z3 (mg_n z2 (mg_n z0 rfl)))))⟩
                 have := hk.2.1.2.2.1
                 rw [← hq1]; omega)
      · refine p_aload_n (pc := 40) C dX5_sea_40 rfl ?_
        refine p_iload (pc := 41) C dX5_sea_41 rfl ?_
        refine p_callVF (pc := 43) C ln_X5_91 dX5_sea_43 (k_X5_fails (by omega) (by (repeat refine mg_n (by omega) ?_); first | assumption | exact mup_s _ _ _)) ⟨by omega, by omega⟩ (by (repeat refine mg_n (by omega) ?_); first | assumption | exact mup_s _ _ _) rfl rfl rfl rfl (Nat.le_of_ble_eq_true rfl) ?_
        refine p_mem (mup_mup _ _ _ _) ?_
        refine p_iret (pc := 46) C dX5_sea_46 ?_
        first
          | (exfalso; omega)
          | (refine ⟨fun q hq => by (repeat (refine mg_n (by omega) ?_)); rfl, ?_⟩; rw [if_pos (by omega)]; exact ⟨rfl, MV_42 hV (by omega)⟩)
          | (refine ⟨fun q hq => by (repeat (refine mg_n (by omega) ?_)); rfl, ?_⟩; rw [if_neg (by omega), if_pos (by omega)]; exact ⟨rfl, MV_42 hV (by omega)⟩)
          | (refine ⟨fun q hq => by (repeat (refine mg_n (by omega) ?_)); rfl, ?_⟩; rw [if_neg (by omega), if_neg (by omega), if_pos (by omega)]; exact ⟨rfl, MV_42 hV (by omega)⟩)
          | (refine ⟨fun z hz => mg_n (by omega) (mg_n (by omega) (mg_n (by omega) rfl)), ?_⟩
             rw [if_neg (by omega), if_neg (by omega), if_neg (by omega), if_pos (by omega)]
             exact ⟨sv (by have := hx c_70; omega), MV_53 (MV_52 (MV_42 hV (by omega)))⟩)
          | (refine ⟨fun z hz => ?_, ?_⟩
             · rw [vo z (by omega) (by omega) (by omega) (by omega) (by omega)]; exact mg_n (by omega) (mg_n (by omega) (mg_n (by omega) (mg_n (by omega) (mg_n (by omega) rfl))))
             · rw [if_neg (by omega), if_neg (by omega), if_neg (by omega), if_neg (by omega)]
               have hq1 : q = cpN (cAt (ln s) (ce s)) i n 0 6 := hk.1.trans hcp
               refine ⟨sv ?_, MV_sea (fs := 60 * s + i) hV hG hq1 hk.2.1 hk.2.2.1 hk.2.2.2 ha hT (mg_n (by omega) (mup_s _ _ _)) (mup_s _ _ _) (by (repeat refine mg_n (by omega) ?_); first | assumption | exact mup_s _ _ _) (by (repeat refine mg_n (by omega) ?_); first | assumption | exact mup_s _ _ _) (fun z z0 z1 z2 z3 => mg_n z1 (mg_n z0 (mg_n z3 (mg_n z2 (mg_n z0 rfl)))))⟩
               have := hk.2.1.2.2.1
               rw [← hq1]; omega)
    · refine p_bipush (pc := 21) C dX5_sea_21 (by decide) ?_
      refine p_iret (pc := 23) C dX5_sea_23 ?_
      first
        | (exfalso; omega)
        | (refine ⟨fun q hq => by (repeat (refine mg_n (by omega) ?_)); rfl, ?_⟩; rw [if_pos (by omega)]; exact ⟨rfl, MV_42 hV (by omega)⟩)
        | (refine ⟨fun q hq => by (repeat (refine mg_n (by omega) ?_)); rfl, ?_⟩; rw [if_neg (by omega), if_pos (by omega)]; exact ⟨rfl, MV_42 hV (by omega)⟩)
        | (refine ⟨fun q hq => by (repeat (refine mg_n (by omega) ?_)); rfl, ?_⟩; rw [if_neg (by omega), if_neg (by omega), if_pos (by omega)]; exact ⟨rfl, MV_42 hV (by omega)⟩)
        | (refine ⟨fun z hz => mg_n (by omega) (mg_n (by omega) (mg_n (by omega) rfl)), ?_⟩
           rw [if_neg (by omega), if_neg (by omega), if_neg (by omega), if_pos (by omega)]
           exact ⟨sv (by have := hx c_70; omega), MV_53 (MV_52 (MV_42 hV (by omega)))⟩)
        | (refine ⟨fun z hz => ?_, ?_⟩
           · rw [vo z (by omega) (by omega) (by omega) (by omega) (by omega)]; exact mg_n (by omega) (mg_n (by omega) (mg_n (by omega) (mg_n (by omega) (mg_n (by omega) rfl))))
           · rw [if_neg (by omega), if_neg (by omega), if_neg (by omega), if_neg (by omega)]
             have hq1 : q = cpN (cAt (ln s) (ce s)) i n 0 6 := hk.1.trans hcp
             refine ⟨sv ?_, MV_sea (fs := 60 * s + i) hV hG hq1 hk.2.1 hk.2.2.1 hk.2.2.2 ha hT (mg_n (by omega) (mup_s _ _ _)) (mup_s _ _ _) (by (repeat refine mg_n (by omega) ?_); first | assumption | exact mup_s _ _ _) (by (repeat refine mg_n (by omega) ?_); first | assumption | exact mup_s _ _ _) (fun z z0 z1 z2 z3 => mg_n z1 (mg_n z0 (mg_n z3 (mg_n z2 (mg_n z0 rfl)))))⟩
             have := hk.2.1.2.2.1
             rw [← hq1]; omega)
  · refine p_iconst (pc := 12) C dX5_sea_12 (by decide) ?_
    refine p_iret (pc := 13) C dX5_sea_13 ?_
    first
      | (exfalso; omega)
      | (refine ⟨fun q hq => by (repeat (refine mg_n (by omega) ?_)); rfl, ?_⟩; rw [if_pos (by omega)]; exact ⟨rfl, MV_42 hV (by omega)⟩)
      | (refine ⟨fun q hq => by (repeat (refine mg_n (by omega) ?_)); rfl, ?_⟩; rw [if_neg (by omega), if_pos (by omega)]; exact ⟨rfl, MV_42 hV (by omega)⟩)
      | (refine ⟨fun q hq => by (repeat (refine mg_n (by omega) ?_)); rfl, ?_⟩; rw [if_neg (by omega), if_neg (by omega), if_pos (by omega)]; exact ⟨rfl, MV_42 hV (by omega)⟩)
      | (refine ⟨fun z hz => mg_n (by omega) (mg_n (by omega) (mg_n (by omega) rfl)), ?_⟩
         rw [if_neg (by omega), if_neg (by omega), if_neg (by omega), if_pos (by omega)]
         exact ⟨sv (by have := hx c_70; omega), MV_53 (MV_52 (MV_42 hV (by omega)))⟩)
      | (refine ⟨fun z hz => ?_, ?_⟩
         · rw [vo z (by omega) (by omega) (by omega) (by omega) (by omega)]; exact mg_n (by omega) (mg_n (by omega) (mg_n (by omega) (mg_n (by omega) (mg_n (by omega) rfl))))
         · rw [if_neg (by omega), if_neg (by omega), if_neg (by omega), if_neg (by omega)]
           have hq1 : q = cpN (cAt (ln s) (ce s)) i n 0 6 := hk.1.trans hcp
           refine ⟨sv ?_, MV_sea (fs := 60 * s + i) hV hG hq1 hk.2.1 hk.2.2.1 hk.2.2.2 ha hT (mg_n (by omega) (mup_s _ _ _)) (mup_s _ _ _) (by (repeat refine mg_n (by omega) ?_); first | assumption | exact mup_s _ _ _) (by (repeat refine mg_n (by omega) ?_); first | assumption | exact mup_s _ _ _) (fun z z0 z1 z2 z3 => mg_n z1 (mg_n z0 (mg_n z3 (mg_n z2 (mg_n z0 rfl)))))⟩
           have := hk.2.1.2.2.1
           rw [← hq1]; omega)
