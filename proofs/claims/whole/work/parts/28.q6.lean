theorem CV_TI {np ns day nr tr fl : Int} {rg kd nm sg pt : Int → Int} {ca : Int → Int → Int} {rs rp rl th la ln : Int → Int} {ce : Int → Int → Int} {μ ν : Int → ME} {F : Int → Int} {fr q m : Int} (h : CV np ns day nr tr fl rg kd nm sg pt ca rs rp rl th la ln ce μ) (hT : TI F fr q 0 0 tr fl rg kd nm sg pt ca m μ ν) : CV (q) (m) (0) (0) tr fl (tkR F fr rg q) (tkK F fr q kd m) (tkS F fr q 2 nm m) (tkS F fr q 3 sg m) (tkS F fr q 4 pt m) (tkC F fr q ca m) rs rp rl th la ln ce ν := by
  obtain ⟨⟨a0, a1, a2, a3⟩, ⟨b4, b5, b6, b7, b8, b9⟩, ⟨c0, c1, c2, c3⟩, d, e, f⟩ := h
  obtain ⟨g0, g1, g2, ho⟩ := hT
  refine ⟨⟨g0, g1, ?_, ?_⟩, ⟨?_, ?_, ?_, ?_, ?_, ?_⟩, ⟨?_, ?_, ?_, ?_⟩, g2, fun k k0 k1 => ?_, fun k k0 k1 => ?_⟩
  · rw [ho 2 (by omega) (by omega) (by omega)]; exact a2
  · rw [ho 3 (by omega) (by omega) (by omega)]; exact a3
  · rw [ho 4 (by omega) (by omega) (by omega)]; exact b4
  · rw [ho 5 (by omega) (by omega) (by omega)]; exact b5
  · rw [ho 6 (by omega) (by omega) (by omega)]; exact b6
  · rw [ho 7 (by omega) (by omega) (by omega)]; exact b7
  · rw [ho 8 (by omega) (by omega) (by omega)]; exact b8
  · rw [ho 9 (by omega) (by omega) (by omega)]; exact b9
  · rw [ho 10 (by omega) (by omega) (by omega)]; exact c0
  · rw [ho 11 (by omega) (by omega) (by omega)]; exact c1
  · rw [ho 12 (by omega) (by omega) (by omega)]; exact c2
  · rw [ho 13 (by omega) (by omega) (by omega)]; exact c3
  · rw [ho (16 + 4 * k) (by omega) (by omega) (by omega), ho (17 + 4 * k) (by omega) (by omega) (by omega)]; exact e k k0 k1
  · rw [ho (34 + 2 * k) (by omega) (by omega) (by omega), ho (35 + 2 * k) (by omega) (by omega) (by omega)]; exact f k k0 k1

theorem ffT_r {F : Int → Int} {fr n : Int} (hn : n ≤ 1000) : -9 ≤ ffT F fr n ∧ ffT F fr n ≤ 1000 := by
  have hc := cpN_r F fr n 6 0
  have key : ∀ (t : Nat) (q place ship : Int), 0 ≤ place → place ≤ 500 - 9 * (t : Int) → -9 ≤ ffN F fr n q place ship t ∧ ffN F fr n q place ship t ≤ 1000 := by
    intro t
    induction t with
    | zero => intro q place ship h0 h1; rw [ffN]; split <;> omega
    | succ t ih =>
      intro q place ship h0 h1
      have hs := csN_r F (fr + place) (n - place) q 9 0
      rw [ffN]
      split
      · omega
      · split
        · omega
        · exact ih q _ _ (by omega) (by push_cast at h1; omega)
  unfold ffT
  split
  · omega
  · split
    · omega
    · exact key 5 _ _ _ (by omega) (by omega)

set_option maxHeartbeats 4000000 in
set_option maxRecDepth 100000 in
theorem q_X4_sea {K : KX} {d : Nat} {μ : Int → ME} {s l i n : Int} {np ns day nr tr fl : Int} {rg kd nm sg pt : Int → Int} {ca : Int → Int → Int} {rs rp rl th la ln : Int → Int} {ce : Int → Int → Int} (hV : CV np ns day nr tr fl rg kd nm sg pt ca rs rp rl th la ln ce μ) (hW : WF np ns day nr tr fl rg kd nm sg pt ca rs rp rl th la ln ce) : Ct K (d + 5) yX4_sea cX4_sea 8 (some .int) [vR 0, vI s, vI l, vI i, vI n] μ (fun r μ' => (∀ a, 42 ≤ a → μ' a = μ a) ∧ (if ¬ (0 ≤ s ∧ s < 4) then r = some (vI (-1)) ∧ CV np ns day nr tr (0) rg kd nm sg pt ca rs rp rl th la ln ce μ' else if ¬ (0 ≤ l ∧ l < 3) then r = some (vI (-2)) ∧ CV np ns day nr tr (0) rg kd nm sg pt ca rs rp rl th la ln ce μ' else if fot (th s) (la s) (ln s) l i n ≠ 0 then r = some (vI (-10 - fot (th s) (la s) (ln s) l i n)) ∧ CV np ns day nr tr (fot (th s) (la s) (ln s) l i n) rg kd nm sg pt ca rs rp rl th la ln ce μ' else if ffT (cAt (ln s) (ce s)) i n ≠ -9 then r = some (vI (-100 - ffT (cAt (ln s) (ce s)) i n)) ∧ CV np ns day nr tr (0) rg kd nm sg pt ca rs rp rl th la ln ce μ' else r = some (vI ((n - 1 - cpN (cAt (ln s) (ce s)) i n 0 6) / 9)) ∧ CV (cpN (cAt (ln s) (ce s)) i n 0 6) ((n - 1 - cpN (cAt (ln s) (ce s)) i n 0 6) / 9) (0) (0) tr (0) (tkR (cAt (ln s) (ce s)) i rg (cpN (cAt (ln s) (ce s)) i n 0 6)) (tkK (cAt (ln s) (ce s)) i (cpN (cAt (ln s) (ce s)) i n 0 6) kd ((n - 1 - cpN (cAt (ln s) (ce s)) i n 0 6) / 9)) (tkS (cAt (ln s) (ce s)) i (cpN (cAt (ln s) (ce s)) i n 0 6) 2 nm ((n - 1 - cpN (cAt (ln s) (ce s)) i n 0 6) / 9)) (tkS (cAt (ln s) (ce s)) i (cpN (cAt (ln s) (ce s)) i n 0 6) 3 sg ((n - 1 - cpN (cAt (ln s) (ce s)) i n 0 6) / 9)) (tkS (cAt (ln s) (ce s)) i (cpN (cAt (ln s) (ce s)) i n 0 6) 4 pt ((n - 1 - cpN (cAt (ln s) (ce s)) i n 0 6) / 9)) (tkC (cAt (ln s) (ce s)) i (cpN (cAt (ln s) (ce s)) i n 0 6) ca ((n - 1 - cpN (cAt (ln s) (ce s)) i n 0 6) / 9)) rs rp rl th la ln ce μ')) := by
  refine Ct.of (by decide) (Nat.le_of_ble_eq_true rfl) (fun X C => ?_)
  obtain ⟨⟨a0, a1, a2, a3⟩, ⟨b4, b5, b6, b7, b8, b9⟩, ⟨c0, c1, c2, c3⟩, dd, ee, ff⟩ := id hV
  obtain ⟨w0, w1, w2, w3, w4, w5, w6⟩ := id hW
  refine p_aload_n (pc := 0) C dX4_sea_0 rfl ?_
  refine p_iconst (pc := 1) C dX4_sea_1 (by decide) ?_
  refine p_putL (pc := 2) (fs' := [_, _, _, _, _, _, _, _, _, _, _, _, _, _, _, _]) C fp_X4_58 dX4_sea_2 ⟨by omega, by omega⟩ (by (repeat refine mg_n (by omega) ?_); first | assumption | exact mup_s _ _ _) (by exact Nat.le_of_ble_eq_true rfl) (by rfl) ?_
  try refine p_mem (mup_mup _ _ _ _) ?_
  refine p_iload_n (pc := 5) C dX4_sea_5 rfl ?_
  refine p_callSF (pc := 6) C ln_X4_62 dX4_sea_6 (k_X4_isSheet) rfl rfl (Nat.le_of_ble_eq_true rfl) ?_
  refine p_ifne_b (pc := 9) (tgt := 14) C dX4_sea_9 (by decide) (fun c_9 => ?_) (fun c_9 => ?_)
  · refine p_iload_n (pc := 14) C dX4_sea_14 rfl ?_
    refine p_iconst (pc := 15) C dX4_sea_15 (by decide) ?_
    refine p_callSF (pc := 16) C ln_X4_66 dX4_sea_16 (k_X4_isBelow) rfl rfl (Nat.le_of_ble_eq_true rfl) ?_
    refine p_ifne_b (pc := 19) (tgt := 25) C dX4_sea_19 (by decide) (fun c_19 => ?_) (fun c_19 => ?_)
    · obtain ⟨r1, r2⟩ := ff s (by omega) (by omega)
      obtain ⟨y1, y2, y3⟩ := w6 s (by omega) (by omega)
      refine p_aload_n (pc := 25) C dX4_sea_25 rfl ?_
      refine p_get (pc := 26) C fl_X4_52 dX4_sea_26 ⟨by omega, by omega⟩ (by (repeat refine mg_n (by omega) ?_); first | assumption | exact mup_s _ _ _) (by rfl) ?_
      refine p_iload_n (pc := 29) C dX4_sea_29 rfl ?_
      refine p_aald (pc := 30) C dX4_sea_30 ⟨by omega, by omega⟩ (by (repeat refine mg_n (by omega) ?_); first | assumption | exact mup_s _ _ _) (by decide) (by omega) (by rfl) ?_
      refine p_astore (pc := 31) (ls' := [(5, _), (0, _), (1, _), (2, _), (3, _), (4, _)]) C dX4_sea_31 (by decide) rfl ?_
      refine p_aload (pc := 33) C dX4_sea_33 rfl ?_
      refine p_iload_n (pc := 35) C dX4_sea_35 rfl ?_
      refine p_iload_n (pc := 36) C dX4_sea_36 rfl ?_
      refine p_iload (pc := 37) C dX4_sea_37 rfl ?_
      refine p_callVF (pc := 39) C ln_X4_70 dX4_sea_39 (k_X0_faultOfTaking ⟨by omega, by omega⟩ (by (repeat refine mg_n (by omega) ?_); first | assumption | exact mup_s _ _ _) (by omega)) ⟨by omega, by omega⟩ (by (repeat refine mg_n (by omega) ?_); first | assumption | exact mup_s _ _ _) rfl rfl rfl rfl (Nat.le_of_ble_eq_true rfl) ?_
      refine p_istore (pc := 42) (ls' := [(6, _), (5, _), (0, _), (1, _), (2, _), (3, _), (4, _)]) C dX4_sea_42 (by decide) rfl ?_
      refine p_iload (pc := 44) C dX4_sea_44 rfl ?_
      refine p_if_eq (pc := 46) (tgt := 56) C dX4_sea_46 (by decide) (fun c_46 => ?_) (fun c_46 => ?_)
      · have hz := fot_0 c_46
        have hff := ffT_r (F := (cAt (ln s) (ce s))) (fr := i) (n := n) (by omega)
        refine p_aload (pc := 56) C dX4_sea_56 rfl ?_
        refine p_iload_n (pc := 58) C dX4_sea_58 rfl ?_
        refine p_iload (pc := 59) C dX4_sea_59 rfl ?_
        refine p_callSF (pc := 61) C ln_X4_78 dX4_sea_61 (k_X4_firstFault ⟨by omega, by omega⟩ (by (repeat refine mg_n (by omega) ?_); first | assumption | exact mup_s _ _ _) ⟨by omega, by omega⟩ (by (repeat refine mg_n (by omega) ?_); first | assumption | exact mup_s _ _ _) (by omega) (by omega) (by omega)) rfl rfl (Nat.le_of_ble_eq_true rfl) ?_
        refine p_istore (pc := 64) (ls' := [(7, _), (6, _), (5, _), (0, _), (1, _), (2, _), (3, _), (4, _)]) C dX4_sea_64 (by decide) rfl ?_
        refine p_iload (pc := 66) C dX4_sea_66 rfl ?_
        refine p_bipush (pc := 68) C dX4_sea_68 (by decide) ?_
        refine p_icmp_eq (pc := 70) (tgt := 79) C dX4_sea_70 (by decide) (fun c_70 => ?_) (fun c_70 => ?_)
        · obtain ⟨m, hok⟩ := ffT_ok c_70
          have em : (n - 1 - cpN (cAt (ln s) (ce s)) i n 0 6) / 9 = m := by have := hok.2.2.1; omega
          refine p_aload_n (pc := 79) C dX4_sea_79 rfl ?_
          refine p_aload (pc := 80) C dX4_sea_80 rfl ?_
          refine p_iload_n (pc := 82) C dX4_sea_82 rfl ?_
          refine p_iload (pc := 83) C dX4_sea_83 rfl ?_
          refine p_callVV (pc := 85) C ln_X4_82 dX4_sea_85 (k_X4_takeText ⟨by omega, by omega⟩ (by (repeat refine mg_n (by omega) ?_); first | assumption | exact mup_s _ _ _) ⟨by omega, by omega⟩ (by (repeat refine mg_n (by omega) ?_); first | assumption | exact mup_s _ _ _) (by omega) (by omega) (by omega) (mup_s _ _ _) (by (repeat refine mg_n (by omega) ?_); first | assumption | exact mup_s _ _ _) (by (repeat refine mg_n (by omega) ?_); first | assumption | exact mup_s _ _ _) (fun j j0 j1 => ⟨mg_n (by omega) (dd j j0 j1).1, mg_n (by omega) (dd j j0 j1).2⟩) (by omega) rfl hok) ⟨by omega, by omega⟩ (by (repeat refine mg_n (by omega) ?_); first | assumption | exact mup_s _ _ _) rfl rfl rfl rfl (Nat.le_of_ble_eq_true rfl) (fun μ' hpost => ?_)
          have u0 := hpost.1
          refine p_aload_n (pc := 88) C dX4_sea_88 rfl ?_
          refine p_get (pc := 89) C fl_X4_86 dX4_sea_89 ⟨by omega, by omega⟩ (by (repeat refine mg_n (by omega) ?_); first | assumption | exact mup_s _ _ _) (by rfl) ?_
          refine p_iret (pc := 92) C dX4_sea_92 ?_
          first
            | (refine ⟨fun q hq => by (repeat (refine mg_n (by omega) ?_)); rfl, ?_⟩; rw [if_pos (by omega)]; exact ⟨rfl, CV_0 hV⟩)
            | (refine ⟨fun q hq => by (repeat (refine mg_n (by omega) ?_)); rfl, ?_⟩; rw [if_neg (by omega), if_pos (by omega)]; exact ⟨rfl, CV_0 hV⟩)
            | (refine ⟨fun q hq => by (repeat (refine mg_n (by omega) ?_)); rfl, ?_⟩; rw [if_neg (by omega), if_neg (by omega), if_pos (by omega)]; exact ⟨rfl, CV_0 hV⟩)
            | (refine ⟨fun q hq => by (repeat (refine mg_n (by omega) ?_)); rfl, ?_⟩; rw [if_neg (by omega), if_neg (by omega), if_neg (by omega), if_pos (by omega)]; exact ⟨rfl, CV_0 hV⟩)
            | (refine ⟨fun q hq => (hpost.2.2.2 q (by omega) (by omega) (by omega)).trans (mg_n (by omega) rfl), ?_⟩; rw [if_neg (by omega), if_neg (by omega), if_neg (by omega), if_neg (by omega), em]; exact ⟨rfl, CV_TI (CV_0 hV) hpost⟩)
        · refine p_bipush (pc := 73) C dX4_sea_73 (by decide) ?_
          refine p_iload (pc := 75) C dX4_sea_75 rfl ?_
          refine p_isub (pc := 77) C dX4_sea_77 ⟨by omega, by omega⟩ ?_
          refine p_iret (pc := 78) C dX4_sea_78 ?_
          first
            | (refine ⟨fun q hq => by (repeat (refine mg_n (by omega) ?_)); rfl, ?_⟩; rw [if_pos (by omega)]; exact ⟨rfl, CV_0 hV⟩)
            | (refine ⟨fun q hq => by (repeat (refine mg_n (by omega) ?_)); rfl, ?_⟩; rw [if_neg (by omega), if_pos (by omega)]; exact ⟨rfl, CV_0 hV⟩)
            | (refine ⟨fun q hq => by (repeat (refine mg_n (by omega) ?_)); rfl, ?_⟩; rw [if_neg (by omega), if_neg (by omega), if_pos (by omega)]; exact ⟨rfl, CV_0 hV⟩)
            | (refine ⟨fun q hq => by (repeat (refine mg_n (by omega) ?_)); rfl, ?_⟩; rw [if_neg (by omega), if_neg (by omega), if_neg (by omega), if_pos (by omega)]; exact ⟨rfl, CV_0 hV⟩)
            | (refine ⟨fun q hq => (hpost.2.2.2 q (by omega) (by omega) (by omega)).trans (mg_n (by omega) rfl), ?_⟩; rw [if_neg (by omega), if_neg (by omega), if_neg (by omega), if_neg (by omega), em]; exact ⟨rfl, CV_TI (CV_0 hV) hpost⟩)
      · refine p_aload_n (pc := 49) C dX4_sea_49 rfl ?_
        refine p_iload (pc := 50) C dX4_sea_50 rfl ?_
        refine p_callVF (pc := 52) C ln_X4_74 dX4_sea_52 (k_X4_faulted (by have := @fot_r (th s) (la s) (ln s) l i n; omega) (by (repeat refine mg_n (by omega) ?_); first | assumption | exact mup_s _ _ _)) ⟨by omega, by omega⟩ (by (repeat refine mg_n (by omega) ?_); first | assumption | exact mup_s _ _ _) rfl rfl rfl rfl (Nat.le_of_ble_eq_true rfl) ?_
        refine p_mem (mup_mup _ _ _ _) ?_
        refine p_iret (pc := 55) C dX4_sea_55 ?_
        first
          | (refine ⟨fun q hq => by (repeat (refine mg_n (by omega) ?_)); rfl, ?_⟩; rw [if_pos (by omega)]; exact ⟨rfl, CV_0 hV⟩)
          | (refine ⟨fun q hq => by (repeat (refine mg_n (by omega) ?_)); rfl, ?_⟩; rw [if_neg (by omega), if_pos (by omega)]; exact ⟨rfl, CV_0 hV⟩)
          | (refine ⟨fun q hq => by (repeat (refine mg_n (by omega) ?_)); rfl, ?_⟩; rw [if_neg (by omega), if_neg (by omega), if_pos (by omega)]; exact ⟨rfl, CV_0 hV⟩)
          | (refine ⟨fun q hq => by (repeat (refine mg_n (by omega) ?_)); rfl, ?_⟩; rw [if_neg (by omega), if_neg (by omega), if_neg (by omega), if_pos (by omega)]; exact ⟨rfl, CV_0 hV⟩)
          | (refine ⟨fun q hq => (hpost.2.2.2 q (by omega) (by omega) (by omega)).trans (mg_n (by omega) rfl), ?_⟩; rw [if_neg (by omega), if_neg (by omega), if_neg (by omega), if_neg (by omega), em]; exact ⟨rfl, CV_TI (CV_0 hV) hpost⟩)
    · refine p_bipush (pc := 22) C dX4_sea_22 (by decide) ?_
      refine p_iret (pc := 24) C dX4_sea_24 ?_
      first
        | (refine ⟨fun q hq => by (repeat (refine mg_n (by omega) ?_)); rfl, ?_⟩; rw [if_pos (by omega)]; exact ⟨rfl, CV_0 hV⟩)
        | (refine ⟨fun q hq => by (repeat (refine mg_n (by omega) ?_)); rfl, ?_⟩; rw [if_neg (by omega), if_pos (by omega)]; exact ⟨rfl, CV_0 hV⟩)
        | (refine ⟨fun q hq => by (repeat (refine mg_n (by omega) ?_)); rfl, ?_⟩; rw [if_neg (by omega), if_neg (by omega), if_pos (by omega)]; exact ⟨rfl, CV_0 hV⟩)
        | (refine ⟨fun q hq => by (repeat (refine mg_n (by omega) ?_)); rfl, ?_⟩; rw [if_neg (by omega), if_neg (by omega), if_neg (by omega), if_pos (by omega)]; exact ⟨rfl, CV_0 hV⟩)
        | (refine ⟨fun q hq => (hpost.2.2.2 q (by omega) (by omega) (by omega)).trans (mg_n (by omega) rfl), ?_⟩; rw [if_neg (by omega), if_neg (by omega), if_neg (by omega), if_neg (by omega), em]; exact ⟨rfl, CV_TI (CV_0 hV) hpost⟩)
  · refine p_iconst (pc := 12) C dX4_sea_12 (by decide) ?_
    refine p_iret (pc := 13) C dX4_sea_13 ?_
    first
      | (refine ⟨fun q hq => by (repeat (refine mg_n (by omega) ?_)); rfl, ?_⟩; rw [if_pos (by omega)]; exact ⟨rfl, CV_0 hV⟩)
      | (refine ⟨fun q hq => by (repeat (refine mg_n (by omega) ?_)); rfl, ?_⟩; rw [if_neg (by omega), if_pos (by omega)]; exact ⟨rfl, CV_0 hV⟩)
      | (refine ⟨fun q hq => by (repeat (refine mg_n (by omega) ?_)); rfl, ?_⟩; rw [if_neg (by omega), if_neg (by omega), if_pos (by omega)]; exact ⟨rfl, CV_0 hV⟩)
      | (refine ⟨fun q hq => by (repeat (refine mg_n (by omega) ?_)); rfl, ?_⟩; rw [if_neg (by omega), if_neg (by omega), if_neg (by omega), if_pos (by omega)]; exact ⟨rfl, CV_0 hV⟩)
      | (refine ⟨fun q hq => (hpost.2.2.2 q (by omega) (by omega) (by omega)).trans (mg_n (by omega) rfl), ?_⟩; rw [if_neg (by omega), if_neg (by omega), if_neg (by omega), if_neg (by omega), em]; exact ⟨rfl, CV_TI (CV_0 hV) hpost⟩)

set_option maxHeartbeats 4000000 in
set_option maxRecDepth 100000 in
theorem k_X4_ofVoyage {K : KX} {d : Nat} {μ : Int → ME} {w np ns day nr tr fl : Int} {kd nm sg : Int → Int} {S : DS} (h0 : μ 0 = oY np ns day nr tr fl) (h3 : μ 3 = mR 0 5 (fun k => some (16 + 4 * k))) (h4 : μ 4 = oT S.2.2.1 S.2.2.2.1 S.2.2.2.2) (hS : ∀ k, 0 ≤ k → k < ns → μ (16 + 4 * k) = oS (kd k) (nm k) (sg k) (S.1 k) (16 + 1 + 4 * k) ∧ μ (16 + 1 + 4 * k) = mA 4 (S.2.1 k)) (hN : WN ns kd nm sg) (hW : WS np ns S) (hns : 0 ≤ ns ∧ ns ≤ 5) (hw : (0 ≤ w ∧ w ≤ 4 ∧ w ≠ 1) ∨ (10 ≤ w ∧ w < 15)) : Ct K (d + 3) yX4_ofVoyage cX4_ofVoyage 2 (some .int) [vR 0, vI w] μ (pF (vI (if w = 0 then S.2.2.1 else if w = 2 then metN nm S.2.1 ns.toNat else if w = 3 then S.2.2.2.1 else if w = 4 then S.2.2.2.2 else if w - 10 < ns then wor (S.2.1 (w - 10)) else -9)) μ) := by
  refine Ct.of (by decide) (Nat.le_of_ble_eq_true rfl) (fun X C => ?_)
  refine p_iload_n (pc := 0) C dX4_ofVoyage_0 rfl ?_
  by_cases s_1_0 : w = 0
  · refine p_tin (pc := 1) (off := 35) (tgt := 36) C dX4_ofVoyage_1 (by omega) (by omega) (by rw [s_1_0]; rfl) (by decide) ?_
    refine p_aload_n (pc := 36) C dX4_ofVoyage_36 rfl ?_
    refine p_get (pc := 37) C fl_X4_27 dX4_ofVoyage_37 ⟨by omega, by omega⟩ (by (repeat refine mg_n (by omega) ?_); first | assumption | exact mup_s _ _ _) (by rfl) ?_
    refine p_get (pc := 40) C fl_X4_320 dX4_ofVoyage_40 ⟨by omega, by omega⟩ (by (repeat refine mg_n (by omega) ?_); first | assumption | exact mup_s _ _ _) (by rfl) ?_
    refine p_iret (pc := 43) C dX4_ofVoyage_43 ?_
    first
      | (exfalso; omega)
      | exact ⟨sv (by rw [if_pos (by omega)]), rfl⟩
      | exact ⟨sv (by rw [if_neg (by omega), if_pos (by omega)]), rfl⟩
      | exact ⟨sv (by rw [if_neg (by omega), if_neg (by omega), if_pos (by omega)]), rfl⟩
      | exact ⟨sv (by rw [if_neg (by omega), if_neg (by omega), if_neg (by omega), if_pos (by omega)]), rfl⟩
      | exact ⟨sv (by rw [if_neg (by omega), if_neg (by omega), if_neg (by omega), if_neg (by omega), if_pos (by omega)]), rfl⟩
      | exact ⟨sv (by rw [if_neg (by omega), if_neg (by omega), if_neg (by omega), if_neg (by omega), if_neg (by omega)]), rfl⟩
  by_cases s_1_1 : w = 1
  · refine p_tin (pc := 1) (off := 68) (tgt := 69) C dX4_ofVoyage_1 (by omega) (by omega) (by rw [s_1_1]; rfl) (by decide) ?_
    refine p_aload_n (pc := 69) C dX4_ofVoyage_69 rfl ?_
    refine p_iload_n (pc := 70) C dX4_ofVoyage_70 rfl ?_
    refine p_bipush (pc := 71) C dX4_ofVoyage_71 (by decide) ?_
    refine p_isub (pc := 73) C dX4_ofVoyage_73 ⟨by omega, by omega⟩ ?_
    refine p_callVF (pc := 74) C ln_X4_89 dX4_ofVoyage_74 (k_X4_isShip h0) ⟨by omega, by omega⟩ (by (repeat refine mg_n (by omega) ?_); first | assumption | exact mup_s _ _ _) rfl rfl rfl rfl (Nat.le_of_ble_eq_true rfl) ?_
    refine p_ifeq_b (pc := 77) (tgt := 95) C dX4_ofVoyage_77 (by decide) (fun c_77 => ?_) (fun c_77 => ?_)
    · refine p_bipush (pc := 95) C dX4_ofVoyage_95 (by decide) ?_
      refine p_iret (pc := 97) C dX4_ofVoyage_97 ?_
      first
        | (exfalso; omega)
        | exact ⟨sv (by rw [if_pos (by omega)]), rfl⟩
        | exact ⟨sv (by rw [if_neg (by omega), if_pos (by omega)]), rfl⟩
        | exact ⟨sv (by rw [if_neg (by omega), if_neg (by omega), if_pos (by omega)]), rfl⟩
        | exact ⟨sv (by rw [if_neg (by omega), if_neg (by omega), if_neg (by omega), if_pos (by omega)]), rfl⟩
        | exact ⟨sv (by rw [if_neg (by omega), if_neg (by omega), if_neg (by omega), if_neg (by omega), if_pos (by omega)]), rfl⟩
        | exact ⟨sv (by rw [if_neg (by omega), if_neg (by omega), if_neg (by omega), if_neg (by omega), if_neg (by omega)]), rfl⟩
    · obtain ⟨s1, s2⟩ := hS (w - 10) (by omega) (by omega)
      have x2 := hW (w - 10) (by omega) (by omega)
      refine p_aload_n (pc := 80) C dX4_ofVoyage_80 rfl ?_
      refine p_get (pc := 81) C fl_X4_21 dX4_ofVoyage_81 ⟨by omega, by omega⟩ (by (repeat refine mg_n (by omega) ?_); first | assumption | exact mup_s _ _ _) (by rfl) ?_
      refine p_iload_n (pc := 84) C dX4_ofVoyage_84 rfl ?_
      refine p_bipush (pc := 85) C dX4_ofVoyage_85 (by decide) ?_
      refine p_isub (pc := 87) C dX4_ofVoyage_87 ⟨by omega, by omega⟩ ?_
      refine p_aald (pc := 88) C dX4_ofVoyage_88 ⟨by omega, by omega⟩ (by (repeat refine mg_n (by omega) ?_); first | assumption | exact mup_s _ _ _) (by decide) (by omega) (by rfl) ?_
      refine p_callVF (pc := 89) C ln_X4_112 dX4_ofVoyage_89 (k_X1_worth ⟨by omega, by omega⟩ s1 ⟨by omega, by omega⟩ s2 (x2.2.le (by omega))) ⟨by omega, by omega⟩ (by (repeat refine mg_n (by omega) ?_); first | assumption | exact mup_s _ _ _) rfl rfl rfl rfl (Nat.le_of_ble_eq_true rfl) ?_
      refine p_goto (pc := 92) (tgt := 97) C dX4_ofVoyage_92 (by decide) ?_
      refine p_iret (pc := 97) C dX4_ofVoyage_97 ?_
      first
        | (exfalso; omega)
        | exact ⟨sv (by rw [if_pos (by omega)]), rfl⟩
        | exact ⟨sv (by rw [if_neg (by omega), if_pos (by omega)]), rfl⟩
        | exact ⟨sv (by rw [if_neg (by omega), if_neg (by omega), if_pos (by omega)]), rfl⟩
        | exact ⟨sv (by rw [if_neg (by omega), if_neg (by omega), if_neg (by omega), if_pos (by omega)]), rfl⟩
        | exact ⟨sv (by rw [if_neg (by omega), if_neg (by omega), if_neg (by omega), if_neg (by omega), if_pos (by omega)]), rfl⟩
        | exact ⟨sv (by rw [if_neg (by omega), if_neg (by omega), if_neg (by omega), if_neg (by omega), if_neg (by omega)]), rfl⟩
  by_cases s_1_2 : w = 2
  · refine p_tin (pc := 1) (off := 43) (tgt := 44) C dX4_ofVoyage_1 (by omega) (by omega) (by rw [s_1_2]; rfl) (by decide) ?_
    refine p_aload_n (pc := 44) C dX4_ofVoyage_44 rfl ?_
    refine p_aload_n (pc := 45) C dX4_ofVoyage_45 rfl ?_
    refine p_get (pc := 46) C fl_X4_21 dX4_ofVoyage_46 ⟨by omega, by omega⟩ (by (repeat refine mg_n (by omega) ?_); first | assumption | exact mup_s _ _ _) (by rfl) ?_
    refine p_callVF (pc := 49) C ln_X4_258 dX4_ofVoyage_49 (k_X4_metOf (b := 16) (kd := kd) (nm := nm) (sg := sg) (pt := S.1) (ca := S.2.1) h0 ⟨by omega, by omega⟩ h3 (by omega) (by omega) (fun j j0 j1 => ⟨(hS j j0 j1).1, (hS j j0 j1).2, (hN j j0 j1).2.1.1, (hN j j0 j1).2.1.2⟩)) ⟨by omega, by omega⟩ (by (repeat refine mg_n (by omega) ?_); first | assumption | exact mup_s _ _ _) rfl rfl rfl rfl (Nat.le_of_ble_eq_true rfl) ?_
    refine p_iret (pc := 52) C dX4_ofVoyage_52 ?_
    first
      | (exfalso; omega)
      | exact ⟨sv (by rw [if_pos (by omega)]), rfl⟩
      | exact ⟨sv (by rw [if_neg (by omega), if_pos (by omega)]), rfl⟩
      | exact ⟨sv (by rw [if_neg (by omega), if_neg (by omega), if_pos (by omega)]), rfl⟩
      | exact ⟨sv (by rw [if_neg (by omega), if_neg (by omega), if_neg (by omega), if_pos (by omega)]), rfl⟩
      | exact ⟨sv (by rw [if_neg (by omega), if_neg (by omega), if_neg (by omega), if_neg (by omega), if_pos (by omega)]), rfl⟩
      | exact ⟨sv (by rw [if_neg (by omega), if_neg (by omega), if_neg (by omega), if_neg (by omega), if_neg (by omega)]), rfl⟩
  by_cases s_1_3 : w = 3
  · refine p_tin (pc := 1) (off := 52) (tgt := 53) C dX4_ofVoyage_1 (by omega) (by omega) (by rw [s_1_3]; rfl) (by decide) ?_
    refine p_aload_n (pc := 53) C dX4_ofVoyage_53 rfl ?_
    refine p_get (pc := 54) C fl_X4_27 dX4_ofVoyage_54 ⟨by omega, by omega⟩ (by (repeat refine mg_n (by omega) ?_); first | assumption | exact mup_s _ _ _) (by rfl) ?_
    refine p_get (pc := 57) C fl_X4_323 dX4_ofVoyage_57 ⟨by omega, by omega⟩ (by (repeat refine mg_n (by omega) ?_); first | assumption | exact mup_s _ _ _) (by rfl) ?_
    refine p_iret (pc := 60) C dX4_ofVoyage_60 ?_
    first
      | (exfalso; omega)
      | exact ⟨sv (by rw [if_pos (by omega)]), rfl⟩
      | exact ⟨sv (by rw [if_neg (by omega), if_pos (by omega)]), rfl⟩
      | exact ⟨sv (by rw [if_neg (by omega), if_neg (by omega), if_pos (by omega)]), rfl⟩
      | exact ⟨sv (by rw [if_neg (by omega), if_neg (by omega), if_neg (by omega), if_pos (by omega)]), rfl⟩
      | exact ⟨sv (by rw [if_neg (by omega), if_neg (by omega), if_neg (by omega), if_neg (by omega), if_pos (by omega)]), rfl⟩
      | exact ⟨sv (by rw [if_neg (by omega), if_neg (by omega), if_neg (by omega), if_neg (by omega), if_neg (by omega)]), rfl⟩
  by_cases s_1_4 : w = 4
  · refine p_tin (pc := 1) (off := 60) (tgt := 61) C dX4_ofVoyage_1 (by omega) (by omega) (by rw [s_1_4]; rfl) (by decide) ?_
    refine p_aload_n (pc := 61) C dX4_ofVoyage_61 rfl ?_
    refine p_get (pc := 62) C fl_X4_27 dX4_ofVoyage_62 ⟨by omega, by omega⟩ (by (repeat refine mg_n (by omega) ?_); first | assumption | exact mup_s _ _ _) (by rfl) ?_
    refine p_get (pc := 65) C fl_X4_326 dX4_ofVoyage_65 ⟨by omega, by omega⟩ (by (repeat refine mg_n (by omega) ?_); first | assumption | exact mup_s _ _ _) (by rfl) ?_
    refine p_iret (pc := 68) C dX4_ofVoyage_68 ?_
    first
      | (exfalso; omega)
      | exact ⟨sv (by rw [if_pos (by omega)]), rfl⟩
      | exact ⟨sv (by rw [if_neg (by omega), if_pos (by omega)]), rfl⟩
      | exact ⟨sv (by rw [if_neg (by omega), if_neg (by omega), if_pos (by omega)]), rfl⟩
      | exact ⟨sv (by rw [if_neg (by omega), if_neg (by omega), if_neg (by omega), if_pos (by omega)]), rfl⟩
      | exact ⟨sv (by rw [if_neg (by omega), if_neg (by omega), if_neg (by omega), if_neg (by omega), if_pos (by omega)]), rfl⟩
      | exact ⟨sv (by rw [if_neg (by omega), if_neg (by omega), if_neg (by omega), if_neg (by omega), if_neg (by omega)]), rfl⟩
  refine p_tout (pc := 1) (tgt := 69) C dX4_ofVoyage_1 (by omega) (by decide) ?_
  refine p_aload_n (pc := 69) C dX4_ofVoyage_69 rfl ?_
  refine p_iload_n (pc := 70) C dX4_ofVoyage_70 rfl ?_
  refine p_bipush (pc := 71) C dX4_ofVoyage_71 (by decide) ?_
  refine p_isub (pc := 73) C dX4_ofVoyage_73 ⟨by omega, by omega⟩ ?_
  refine p_callVF (pc := 74) C ln_X4_89 dX4_ofVoyage_74 (k_X4_isShip h0) ⟨by omega, by omega⟩ (by (repeat refine mg_n (by omega) ?_); first | assumption | exact mup_s _ _ _) rfl rfl rfl rfl (Nat.le_of_ble_eq_true rfl) ?_
  refine p_ifeq_b (pc := 77) (tgt := 95) C dX4_ofVoyage_77 (by decide) (fun c_77 => ?_) (fun c_77 => ?_)
  · refine p_bipush (pc := 95) C dX4_ofVoyage_95 (by decide) ?_
    refine p_iret (pc := 97) C dX4_ofVoyage_97 ?_
    first
      | (exfalso; omega)
      | exact ⟨sv (by rw [if_pos (by omega)]), rfl⟩
      | exact ⟨sv (by rw [if_neg (by omega), if_pos (by omega)]), rfl⟩
      | exact ⟨sv (by rw [if_neg (by omega), if_neg (by omega), if_pos (by omega)]), rfl⟩
      | exact ⟨sv (by rw [if_neg (by omega), if_neg (by omega), if_neg (by omega), if_pos (by omega)]), rfl⟩
      | exact ⟨sv (by rw [if_neg (by omega), if_neg (by omega), if_neg (by omega), if_neg (by omega), if_pos (by omega)]), rfl⟩
      | exact ⟨sv (by rw [if_neg (by omega), if_neg (by omega), if_neg (by omega), if_neg (by omega), if_neg (by omega)]), rfl⟩
  · obtain ⟨s1, s2⟩ := hS (w - 10) (by omega) (by omega)
    have x2 := hW (w - 10) (by omega) (by omega)
    refine p_aload_n (pc := 80) C dX4_ofVoyage_80 rfl ?_
    refine p_get (pc := 81) C fl_X4_21 dX4_ofVoyage_81 ⟨by omega, by omega⟩ (by (repeat refine mg_n (by omega) ?_); first | assumption | exact mup_s _ _ _) (by rfl) ?_
    refine p_iload_n (pc := 84) C dX4_ofVoyage_84 rfl ?_
    refine p_bipush (pc := 85) C dX4_ofVoyage_85 (by decide) ?_
    refine p_isub (pc := 87) C dX4_ofVoyage_87 ⟨by omega, by omega⟩ ?_
    refine p_aald (pc := 88) C dX4_ofVoyage_88 ⟨by omega, by omega⟩ (by (repeat refine mg_n (by omega) ?_); first | assumption | exact mup_s _ _ _) (by decide) (by omega) (by rfl) ?_
    refine p_callVF (pc := 89) C ln_X4_112 dX4_ofVoyage_89 (k_X1_worth ⟨by omega, by omega⟩ s1 ⟨by omega, by omega⟩ s2 (x2.2.le (by omega))) ⟨by omega, by omega⟩ (by (repeat refine mg_n (by omega) ?_); first | assumption | exact mup_s _ _ _) rfl rfl rfl rfl (Nat.le_of_ble_eq_true rfl) ?_
    refine p_goto (pc := 92) (tgt := 97) C dX4_ofVoyage_92 (by decide) ?_
    refine p_iret (pc := 97) C dX4_ofVoyage_97 ?_
    first
      | (exfalso; omega)
      | exact ⟨sv (by rw [if_pos (by omega)]), rfl⟩
      | exact ⟨sv (by rw [if_neg (by omega), if_pos (by omega)]), rfl⟩
      | exact ⟨sv (by rw [if_neg (by omega), if_neg (by omega), if_pos (by omega)]), rfl⟩
      | exact ⟨sv (by rw [if_neg (by omega), if_neg (by omega), if_neg (by omega), if_pos (by omega)]), rfl⟩
      | exact ⟨sv (by rw [if_neg (by omega), if_neg (by omega), if_neg (by omega), if_neg (by omega), if_pos (by omega)]), rfl⟩
      | exact ⟨sv (by rw [if_neg (by omega), if_neg (by omega), if_neg (by omega), if_neg (by omega), if_neg (by omega)]), rfl⟩

theorem vyR_n {w ns : Int} {nm : Int → Int} {V : Int × DS} (h1 : ¬ w = 1) (h2 : V.1 = -9) : (if w = 0 then V.2.2.2.1 else if w = 2 then metN nm V.2.2.1 ns.toNat else if w = 3 then V.2.2.2.2.1 else if w = 4 then V.2.2.2.2.2 else if w - 10 < ns then wor (V.2.2.1 (w - 10)) else -9) = vyR w ns nm V := by
  unfold vyR
  rw [if_neg h1, if_neg (show ¬ (V.1 ≠ -9) from fun z => z h2)]
theorem WS_vy {F : Int → Int} {fr np ns : Int} {rg kd nm sg : Int → Int} (hN : WN ns kd nm sg) (hns : 0 ≤ ns ∧ ns ≤ 5) : ∀ (t : Nat) (i : Int) (S : DS), WS np ns S → WS np ns (vyN F fr np ns rg kd nm sg i S t).2 ∧ ((vyN F fr np ns rg kd nm sg i S t).1 = -9 ∨ (i ≤ (vyN F fr np ns rg kd nm sg i S t).1 ∧ (vyN F fr np ns rg kd nm sg i S t).1 < i + (t : Int)))
  | 0, i, S, h => by rw [vyN]; exact ⟨h, Or.inl rfl⟩
  | t + 1, i, S, h => by
    rw [vyN]
    split
    · have := WS_vy (F := F) (fr := fr) (np := np) (rg := rg) hN hns t (i + 1) _ (WS_dy (np := np) (rg := rg) hN hns (F (fr + 2 * i)).toNat S h).1
      exact ⟨this.1, by push_cast; omega⟩
    · split
      · rename_i hv
        have := WS_vy (F := F) (fr := fr) (np := np) (rg := rg) hN hns t (i + 1) _ (WS_act (k := F (fr + 2 * i)) (g := actG (F (fr + 2 * i + 1))) h hv)
        exact ⟨this.1, by push_cast; omega⟩
      · exact ⟨h, Or.inr ⟨by omega, by push_cast; omega⟩⟩
theorem CV_told {np ns day nr tr fl : Int} {rg kd nm sg pt : Int → Int} {ca : Int → Int → Int} {rs rp rl th la ln : Int → Int} {ce : Int → Int → Int} {μ ν : Int → ME} {S : DS} {x y z : Int} (h : CV np ns day nr tr fl rg kd nm sg pt ca rs rp rl th la ln ce μ) (hns : 0 ≤ ns ∧ ns ≤ 5) (hF : FI 16 ns 4 kd nm sg S μ ν) (h4 : ν 4 = oT x y z) : CV np ns day nr tr fl rg kd nm sg pt ca rs rp rl th la ln ce ν := by
  obtain ⟨⟨a0, a1, a2, a3⟩, ⟨b4, b5, b6, b7, b8, b9⟩, ⟨c0, c1, c2, c3⟩, d, e, f⟩ := h
  obtain ⟨g1, g2⟩ := hF
  refine ⟨⟨?_, ?_, ?_, ?_⟩, ⟨⟨x, y, z, h4⟩, ?_, ?_, ?_, ?_, ?_⟩, ⟨?_, ?_, ?_, ?_⟩, fun k k0 k1 => ?_, fun k k0 k1 => ?_, fun k k0 k1 => ?_⟩
  · rw [g2 0 (by omega) (by omega)]; exact a0
  · rw [g2 1 (by omega) (by omega)]; exact a1
  · rw [g2 2 (by omega) (by omega)]; exact a2
  · rw [g2 3 (by omega) (by omega)]; exact a3
  · rw [g2 5 (by omega) (by omega)]; exact b5
  · rw [g2 6 (by omega) (by omega)]; exact b6
  · rw [g2 7 (by omega) (by omega)]; exact b7
  · rw [g2 8 (by omega) (by omega)]; exact b8
  · rw [g2 9 (by omega) (by omega)]; exact b9
  · rw [g2 10 (by omega) (by omega)]; exact c0
  · rw [g2 11 (by omega) (by omega)]; exact c1
  · rw [g2 12 (by omega) (by omega)]; exact c2
  · rw [g2 13 (by omega) (by omega)]; exact c3
  · rw [g2 (14 + 4 * k) (by omega) (by omega), g2 (15 + 4 * k) (by omega) (by omega)]; exact d k k0 k1
  · by_cases hk : k < ns
    · exact ⟨_, _, _, _, _, by rw [show 17 + 4 * k = 16 + 1 + 4 * k by omega]; exact (g1 k k0 hk).1, by rw [show 17 + 4 * k = 16 + 1 + 4 * k by omega]; exact (g1 k k0 hk).2⟩
    · rw [g2 (16 + 4 * k) (by omega) (by omega), g2 (17 + 4 * k) (by omega) (by omega)]; exact e k k0 k1
  · rw [g2 (34 + 2 * k) (by omega) (by omega), g2 (35 + 2 * k) (by omega) (by omega)]; exact f k k0 k1

set_option maxHeartbeats 4000000 in
set_option maxRecDepth 100000 in
theorem q_X4_voyage {K : KX} {d : Nat} {μ : Int → ME} {s l i n w : Int} {np ns day nr tr fl : Int} {rg kd nm sg pt : Int → Int} {ca : Int → Int → Int} {rs rp rl th la ln : Int → Int} {ce : Int → Int → Int} (hV : CV np ns day nr tr fl rg kd nm sg pt ca rs rp rl th la ln ce μ) (hW : WF np ns day nr tr fl rg kd nm sg pt ca rs rp rl th la ln ce) (hw : rng w) : Ct K (d + 5) yX4_voyage cX4_voyage 10 (some .int) [vR 0, vI s, vI l, vI i, vI n, vI w] μ (fun r μ' => (∀ a, 42 ≤ a → μ' a = μ a) ∧ (if ¬ (0 ≤ s ∧ s < 4) then r = some (vI (-1)) ∧ CV np ns day nr tr (0) rg kd nm sg pt ca rs rp rl th la ln ce μ' else if ¬ ((0 ≤ l ∧ l < 3) ∧ (0 ≤ n ∧ n ≤ 20) ∧ ((0 ≤ w ∧ w ≤ 4) ∨ (10 ≤ w ∧ w < 15))) then r = some (vI (-2)) ∧ CV np ns day nr tr (0) rg kd nm sg pt ca rs rp rl th la ln ce μ' else if fot (th s) (la s) (ln s) l i (2 * n) ≠ 0 then r = some (vI (-10 - fot (th s) (la s) (ln s) l i (2 * n))) ∧ CV np ns day nr tr (fot (th s) (la s) (ln s) l i (2 * n)) rg kd nm sg pt ca rs rp rl th la ln ce μ' else if ¬ 0 < ns then r = some (vI (-3)) ∧ CV np ns day nr tr (0) rg kd nm sg pt ca rs rp rl th la ln ce μ' else if rfN (cAt (ln s) (ce s)) i ns 0 n.toNat ≠ 0 then r = some (vI (rfN (cAt (ln s) (ce s)) i ns 0 n.toNat)) ∧ CV np ns day nr tr (0) rg kd nm sg pt ca rs rp rl th la ln ce μ' else r = some (vI (vyR w ns nm (vyN (cAt (ln s) (ce s)) i np ns rg kd nm sg 0 (pt, ca, 0, 0, -9) n.toNat))) ∧ CV np ns day nr tr (0) rg kd nm sg pt ca rs rp rl th la ln ce μ')) := by
  refine Ct.of (by decide) (Nat.le_of_ble_eq_true rfl) (fun X C => ?_)
  obtain ⟨⟨a0, a1, a2, a3⟩, ⟨b4, b5, b6, b7, b8, b9⟩, ⟨c0, c1, c2, c3⟩, dd, ee, ff⟩ := id hV
  obtain ⟨w0, w1, w2, w3, w4, w5, w6⟩ := id hW
  obtain ⟨tp, tw, ts, b4⟩ := b4
  refine p_aload_n (pc := 0) C dX4_voyage_0 rfl ?_
  refine p_iconst (pc := 1) C dX4_voyage_1 (by decide) ?_
  refine p_putL (pc := 2) (fs' := [_, _, _, _, _, _, _, _, _, _, _, _, _, _, _, _]) C fp_X4_58 dX4_voyage_2 ⟨by omega, by omega⟩ (by (repeat refine mg_n (by omega) ?_); first | assumption | exact mup_s _ _ _) (by exact Nat.le_of_ble_eq_true rfl) (by rfl) ?_
  try refine p_mem (mup_mup _ _ _ _) ?_
  refine p_iload_n (pc := 5) C dX4_voyage_5 rfl ?_
  refine p_callSF (pc := 6) C ln_X4_62 dX4_voyage_6 (k_X4_isSheet) rfl rfl (Nat.le_of_ble_eq_true rfl) ?_
  refine p_ifne_b (pc := 9) (tgt := 14) C dX4_voyage_9 (by decide) (fun c_9 => ?_) (fun c_9 => ?_)
  · refine p_iload_n (pc := 14) C dX4_voyage_14 rfl ?_
    refine p_iconst (pc := 15) C dX4_voyage_15 (by decide) ?_
    refine p_callSF (pc := 16) C ln_X4_66 dX4_voyage_16 (k_X4_isBelow) rfl rfl (Nat.le_of_ble_eq_true rfl) ?_
    refine p_ifeq_b (pc := 19) (tgt := 40) C dX4_voyage_19 (by decide) (fun c_19 => ?_) (fun c_19 => ?_)
    · refine p_bipush (pc := 40) C dX4_voyage_40 (by decide) ?_
      refine p_iret (pc := 42) C dX4_voyage_42 ?_
      first
        | (refine ⟨fun q hq => by (repeat (refine mg_n (by omega) ?_)); rfl, ?_⟩; rw [if_pos (by omega)]; exact ⟨rfl, CV_0 hV⟩)
        | (refine ⟨fun q hq => by (repeat (refine mg_n (by omega) ?_)); rfl, ?_⟩; rw [if_neg (by omega), if_pos (by omega)]; exact ⟨rfl, CV_0 hV⟩)
        | (refine ⟨fun q hq => by (repeat (refine mg_n (by omega) ?_)); rfl, ?_⟩; rw [if_neg (by omega), if_neg (by omega), if_pos (by omega)]; exact ⟨rfl, CV_0 hV⟩)
        | (refine ⟨fun q hq => by (repeat (refine mg_n (by omega) ?_)); rfl, ?_⟩; rw [if_neg (by omega), if_neg (by omega), if_neg (by omega), if_pos (by omega)]; exact ⟨rfl, CV_0 hV⟩)
        | (refine ⟨fun q hq => by (repeat (refine mg_n (by omega) ?_)); rfl, ?_⟩; rw [if_neg (by omega), if_neg (by omega), if_neg (by omega), if_neg (by omega), if_pos (by omega)]; exact ⟨rfl, CV_0 hV⟩)
        | (refine ⟨fun q hq => (hFI.2 q (by omega) (by omega)).trans (mg_n (by omega) rfl), ?_⟩; rw [if_neg (by omega), if_neg (by omega), if_neg (by omega), if_neg (by omega), if_neg (by omega)]; exact ⟨sv (by unfold vyR; rw [if_pos (by omega)]), hCV⟩)
        | (refine ⟨fun q hq => (hFI.2 q (by omega) (by omega)).trans (mg_n (by omega) rfl), ?_⟩; rw [if_neg (by omega), if_neg (by omega), if_neg (by omega), if_neg (by omega), if_neg (by omega)]; exact ⟨sv (by unfold vyR; rw [if_neg (by omega), if_pos (by omega)]), hCV⟩)
        | (refine ⟨fun q hq => (hFI.2 q (by omega) (by omega)).trans (mg_n (by omega) rfl), ?_⟩; rw [if_neg (by omega), if_neg (by omega), if_neg (by omega), if_neg (by omega), if_neg (by omega)]; exact ⟨sv (vyR_n (by omega) c_129), hCV⟩)
    · refine p_iload (pc := 22) C dX4_voyage_22 rfl ?_
      refine p_bipush (pc := 24) C dX4_voyage_24 (by decide) ?_
      refine p_callSF (pc := 26) C ln_X4_127 dX4_voyage_26 (k_X4_isUpTo) rfl rfl (Nat.le_of_ble_eq_true rfl) ?_
      refine p_ifeq_b (pc := 29) (tgt := 40) C dX4_voyage_29 (by decide) (fun c_29 => ?_) (fun c_29 => ?_)
      · refine p_bipush (pc := 40) C dX4_voyage_40 (by decide) ?_
        refine p_iret (pc := 42) C dX4_voyage_42 ?_
        first
          | (refine ⟨fun q hq => by (repeat (refine mg_n (by omega) ?_)); rfl, ?_⟩; rw [if_pos (by omega)]; exact ⟨rfl, CV_0 hV⟩)
          | (refine ⟨fun q hq => by (repeat (refine mg_n (by omega) ?_)); rfl, ?_⟩; rw [if_neg (by omega), if_pos (by omega)]; exact ⟨rfl, CV_0 hV⟩)
          | (refine ⟨fun q hq => by (repeat (refine mg_n (by omega) ?_)); rfl, ?_⟩; rw [if_neg (by omega), if_neg (by omega), if_pos (by omega)]; exact ⟨rfl, CV_0 hV⟩)
          | (refine ⟨fun q hq => by (repeat (refine mg_n (by omega) ?_)); rfl, ?_⟩; rw [if_neg (by omega), if_neg (by omega), if_neg (by omega), if_pos (by omega)]; exact ⟨rfl, CV_0 hV⟩)
          | (refine ⟨fun q hq => by (repeat (refine mg_n (by omega) ?_)); rfl, ?_⟩; rw [if_neg (by omega), if_neg (by omega), if_neg (by omega), if_neg (by omega), if_pos (by omega)]; exact ⟨rfl, CV_0 hV⟩)
          | (refine ⟨fun q hq => (hFI.2 q (by omega) (by omega)).trans (mg_n (by omega) rfl), ?_⟩; rw [if_neg (by omega), if_neg (by omega), if_neg (by omega), if_neg (by omega), if_neg (by omega)]; exact ⟨sv (by unfold vyR; rw [if_pos (by omega)]), hCV⟩)
          | (refine ⟨fun q hq => (hFI.2 q (by omega) (by omega)).trans (mg_n (by omega) rfl), ?_⟩; rw [if_neg (by omega), if_neg (by omega), if_neg (by omega), if_neg (by omega), if_neg (by omega)]; exact ⟨sv (by unfold vyR; rw [if_neg (by omega), if_pos (by omega)]), hCV⟩)
          | (refine ⟨fun q hq => (hFI.2 q (by omega) (by omega)).trans (mg_n (by omega) rfl), ?_⟩; rw [if_neg (by omega), if_neg (by omega), if_neg (by omega), if_neg (by omega), if_neg (by omega)]; exact ⟨sv (vyR_n (by omega) c_129), hCV⟩)
      · refine p_iload (pc := 32) C dX4_voyage_32 rfl ?_
        refine p_callSF (pc := 34) C ln_X4_143 dX4_voyage_34 (k_X4_isAskedOfVoyage hw) rfl rfl (Nat.le_of_ble_eq_true rfl) ?_
        refine p_ifne_b (pc := 37) (tgt := 43) C dX4_voyage_37 (by decide) (fun c_37 => ?_) (fun c_37 => ?_)
        · obtain ⟨r1, r2⟩ := ff s (by omega) (by omega)
          obtain ⟨y1, y2, y3⟩ := w6 s (by omega) (by omega)
          refine p_aload_n (pc := 43) C dX4_voyage_43 rfl ?_
          refine p_get (pc := 44) C fl_X4_52 dX4_voyage_44 ⟨by omega, by omega⟩ (by (repeat refine mg_n (by omega) ?_); first | assumption | exact mup_s _ _ _) (by rfl) ?_
          refine p_iload_n (pc := 47) C dX4_voyage_47 rfl ?_
          refine p_aald (pc := 48) C dX4_voyage_48 ⟨by omega, by omega⟩ (by (repeat refine mg_n (by omega) ?_); first | assumption | exact mup_s _ _ _) (by decide) (by omega) (by rfl) ?_
          refine p_astore (pc := 49) (ls' := [(6, _), (0, _), (1, _), (2, _), (3, _), (4, _), (5, _)]) C dX4_voyage_49 (by decide) rfl ?_
          refine p_aload (pc := 51) C dX4_voyage_51 rfl ?_
          refine p_iload_n (pc := 53) C dX4_voyage_53 rfl ?_
          refine p_iload_n (pc := 54) C dX4_voyage_54 rfl ?_
          refine p_iconst (pc := 55) C dX4_voyage_55 (by decide) ?_
          refine p_iload (pc := 56) C dX4_voyage_56 rfl ?_
          refine p_imul (pc := 58) C dX4_voyage_58 ⟨by omega, by omega⟩ ?_
          refine p_callVF (pc := 59) C ln_X4_70 dX4_voyage_59 (k_X0_faultOfTaking ⟨by omega, by omega⟩ (by (repeat refine mg_n (by omega) ?_); first | assumption | exact mup_s _ _ _) (by omega)) ⟨by omega, by omega⟩ (by (repeat refine mg_n (by omega) ?_); first | assumption | exact mup_s _ _ _) rfl rfl rfl rfl (Nat.le_of_ble_eq_true rfl) ?_
          refine p_istore (pc := 62) (ls' := [(7, _), (6, _), (0, _), (1, _), (2, _), (3, _), (4, _), (5, _)]) C dX4_voyage_62 (by decide) rfl ?_
          refine p_iload (pc := 64) C dX4_voyage_64 rfl ?_
          refine p_if_eq (pc := 66) (tgt := 76) C dX4_voyage_66 (by decide) (fun c_66 => ?_) (fun c_66 => ?_)
          · have hz := fot_0 c_66
            refine p_aload_n (pc := 76) C dX4_voyage_76 rfl ?_
            refine p_callVF (pc := 77) C ln_X4_130 dX4_voyage_77 (k_X4_hasSea (by (repeat refine mg_n (by omega) ?_); first | assumption | exact mup_s _ _ _)) ⟨by omega, by omega⟩ (by (repeat refine mg_n (by omega) ?_); first | assumption | exact mup_s _ _ _) rfl rfl rfl rfl (Nat.le_of_ble_eq_true rfl) ?_
            refine p_ifne_b (pc := 80) (tgt := 86) C dX4_voyage_80 (by decide) (fun c_80 => ?_) (fun c_80 => ?_)
            · refine p_aload_n (pc := 86) C dX4_voyage_86 rfl ?_
              refine p_aload (pc := 87) C dX4_voyage_87 rfl ?_
              refine p_iload_n (pc := 89) C dX4_voyage_89 rfl ?_
              refine p_iload (pc := 90) C dX4_voyage_90 rfl ?_
              refine p_callVF (pc := 92) C ln_X4_146 dX4_voyage_92 (k_X4_refusalOfPairs ⟨by omega, by omega⟩ (by (repeat refine mg_n (by omega) ?_); first | assumption | exact mup_s _ _ _) ⟨by omega, by omega⟩ (by (repeat refine mg_n (by omega) ?_); first | assumption | exact mup_s _ _ _) (by omega) (by (repeat refine mg_n (by omega) ?_); first | assumption | exact mup_s _ _ _) (by omega) (by omega)) ⟨by omega, by omega⟩ (by (repeat refine mg_n (by omega) ?_); first | assumption | exact mup_s _ _ _) rfl rfl rfl rfl (Nat.le_of_ble_eq_true rfl) ?_
              refine p_istore (pc := 95) (ls' := [(8, _), (7, _), (6, _), (0, _), (1, _), (2, _), (3, _), (4, _), (5, _)]) C dX4_voyage_95 (by decide) rfl ?_
              refine p_iload (pc := 97) C dX4_voyage_97 rfl ?_
              refine p_if_eq (pc := 99) (tgt := 105) C dX4_voyage_99 (by decide) (fun c_99 => ?_) (fun c_99 => ?_)
              · refine p_aload_n (pc := 105) C dX4_voyage_105 rfl ?_
                refine p_aload (pc := 106) C dX4_voyage_106 rfl ?_
                refine p_iload_n (pc := 108) C dX4_voyage_108 rfl ?_
                refine p_iload (pc := 109) C dX4_voyage_109 rfl ?_
                refine p_callVI (pc := 111) C ln_X4_149 dX4_voyage_111 (k_X4_sailVoyage ⟨by omega, by omega⟩ (by (repeat refine mg_n (by omega) ?_); first | assumption | exact mup_s _ _ _) ⟨by omega, by omega⟩ (by (repeat refine mg_n (by omega) ?_); first | assumption | exact mup_s _ _ _) (by omega) (by omega) (by omega) (by (repeat refine mg_n (by omega) ?_); first | assumption | exact mup_s _ _ _) (by (repeat refine mg_n (by omega) ?_); first | assumption | exact mup_s _ _ _) (by omega) (by omega) (by (repeat refine mg_n (by omega) ?_); first | assumption | exact mup_s _ _ _) (by (repeat refine mg_n (by omega) ?_); first | assumption | exact mup_s _ _ _) (fun j j0 j1 => ⟨mg_n (by omega) (dd j j0 j1).1, mg_n (by omega) (dd j j0 j1).2⟩) (fun j j0 j1 => by obtain ⟨q1, q2, q3, q4, q5, e1, e2⟩ := ee j j0 j1; exact ⟨q1, q2, q3, q4, q5, mg_n (by omega) e1, mg_n (by omega) e2⟩) (by (repeat refine mg_n (by omega) ?_); first | assumption | exact mup_s _ _ _) (by omega) (by omega) w4 w3 (fun j j0 j1 => rfN_ok _ _ _ _ _ c_99 j j0 (by omega))) ⟨by omega, by omega⟩ (by (repeat refine mg_n (by omega) ?_); first | assumption | exact mup_s _ _ _) rfl rfl rfl rfl (Nat.le_of_ble_eq_true rfl) (fun z μ' hpost => ?_)
                obtain ⟨hz, hFI, hT4⟩ := hpost
                subst hz
                have hwv := WS_vy (F := (cAt (ln s) (ce s))) (fr := i) (np := np) (rg := rg) w3 (by omega) n.toNat 0 (pt, ca, 0, 0, -9) w4
                have hCV := CV_told (CV_0 (fl' := 0) hV) (by omega) hFI hT4
                have u0 : μ' 0 = oY np ns day nr tr 0 := (hFI.2 0 (by omega) (by omega)).trans (mup_s _ _ _)
                have u3 : μ' 3 = mR 0 5 (fun k => some (16 + 4 * k)) := (hFI.2 3 (by omega) (by omega)).trans (mg_n (by omega) a3)
                refine p_istore (pc := 114) (ls' := [(9, _), (8, _), (7, _), (6, _), (0, _), (1, _), (2, _), (3, _), (4, _), (5, _)]) C dX4_voyage_114 (by decide) rfl ?_
                refine p_iload (pc := 116) C dX4_voyage_116 rfl ?_
                refine p_iconst (pc := 118) C dX4_voyage_118 (by decide) ?_
                refine p_icmp_ne (pc := 119) (tgt := 125) C dX4_voyage_119 (by decide) (fun c_119 => ?_) (fun c_119 => ?_)
                · refine p_iload (pc := 125) C dX4_voyage_125 rfl ?_
                  refine p_bipush (pc := 127) C dX4_voyage_127 (by decide) ?_
                  refine p_icmp_ne (pc := 129) (tgt := 141) C dX4_voyage_129 (by decide) (fun c_129 => ?_) (fun c_129 => ?_)
                  · refine p_bipush (pc := 141) C dX4_voyage_141 (by decide) ?_
                    refine p_iload (pc := 143) C dX4_voyage_143 rfl ?_
                    refine p_isub (pc := 145) C dX4_voyage_145 ⟨by omega, by omega⟩ ?_
                    refine p_iret (pc := 146) C dX4_voyage_146 ?_
                    first
                      | (refine ⟨fun q hq => by (repeat (refine mg_n (by omega) ?_)); rfl, ?_⟩; rw [if_pos (by omega)]; exact ⟨rfl, CV_0 hV⟩)
                      | (refine ⟨fun q hq => by (repeat (refine mg_n (by omega) ?_)); rfl, ?_⟩; rw [if_neg (by omega), if_pos (by omega)]; exact ⟨rfl, CV_0 hV⟩)
                      | (refine ⟨fun q hq => by (repeat (refine mg_n (by omega) ?_)); rfl, ?_⟩; rw [if_neg (by omega), if_neg (by omega), if_pos (by omega)]; exact ⟨rfl, CV_0 hV⟩)
                      | (refine ⟨fun q hq => by (repeat (refine mg_n (by omega) ?_)); rfl, ?_⟩; rw [if_neg (by omega), if_neg (by omega), if_neg (by omega), if_pos (by omega)]; exact ⟨rfl, CV_0 hV⟩)
                      | (refine ⟨fun q hq => by (repeat (refine mg_n (by omega) ?_)); rfl, ?_⟩; rw [if_neg (by omega), if_neg (by omega), if_neg (by omega), if_neg (by omega), if_pos (by omega)]; exact ⟨rfl, CV_0 hV⟩)
                      | (refine ⟨fun q hq => (hFI.2 q (by omega) (by omega)).trans (mg_n (by omega) rfl), ?_⟩; rw [if_neg (by omega), if_neg (by omega), if_neg (by omega), if_neg (by omega), if_neg (by omega)]; exact ⟨sv (by unfold vyR; rw [if_pos (by omega)]), hCV⟩)
                      | (refine ⟨fun q hq => (hFI.2 q (by omega) (by omega)).trans (mg_n (by omega) rfl), ?_⟩; rw [if_neg (by omega), if_neg (by omega), if_neg (by omega), if_neg (by omega), if_neg (by omega)]; exact ⟨sv (by unfold vyR; rw [if_neg (by omega), if_pos (by omega)]), hCV⟩)
                      | (refine ⟨fun q hq => (hFI.2 q (by omega) (by omega)).trans (mg_n (by omega) rfl), ?_⟩; rw [if_neg (by omega), if_neg (by omega), if_neg (by omega), if_neg (by omega), if_neg (by omega)]; exact ⟨sv (vyR_n (by omega) c_129), hCV⟩)
                  · refine p_aload_n (pc := 132) C dX4_voyage_132 rfl ?_
                    refine p_iload (pc := 133) C dX4_voyage_133 rfl ?_
                    refine p_callVF (pc := 135) C ln_X4_152 dX4_voyage_135 (k_X4_ofVoyage u0 u3 hT4 hFI.1 w3 hwv.1 (by omega) (by omega)) ⟨by omega, by omega⟩ (by (repeat refine mg_n (by omega) ?_); first | assumption | exact mup_s _ _ _) rfl rfl rfl rfl (Nat.le_of_ble_eq_true rfl) ?_
                    refine p_goto (pc := 138) (tgt := 146) C dX4_voyage_138 (by decide) ?_
                    refine p_iret (pc := 146) C dX4_voyage_146 ?_
                    first
                      | (refine ⟨fun q hq => by (repeat (refine mg_n (by omega) ?_)); rfl, ?_⟩; rw [if_pos (by omega)]; exact ⟨rfl, CV_0 hV⟩)
                      | (refine ⟨fun q hq => by (repeat (refine mg_n (by omega) ?_)); rfl, ?_⟩; rw [if_neg (by omega), if_pos (by omega)]; exact ⟨rfl, CV_0 hV⟩)
                      | (refine ⟨fun q hq => by (repeat (refine mg_n (by omega) ?_)); rfl, ?_⟩; rw [if_neg (by omega), if_neg (by omega), if_pos (by omega)]; exact ⟨rfl, CV_0 hV⟩)
                      | (refine ⟨fun q hq => by (repeat (refine mg_n (by omega) ?_)); rfl, ?_⟩; rw [if_neg (by omega), if_neg (by omega), if_neg (by omega), if_pos (by omega)]; exact ⟨rfl, CV_0 hV⟩)
                      | (refine ⟨fun q hq => by (repeat (refine mg_n (by omega) ?_)); rfl, ?_⟩; rw [if_neg (by omega), if_neg (by omega), if_neg (by omega), if_neg (by omega), if_pos (by omega)]; exact ⟨rfl, CV_0 hV⟩)
                      | (refine ⟨fun q hq => (hFI.2 q (by omega) (by omega)).trans (mg_n (by omega) rfl), ?_⟩; rw [if_neg (by omega), if_neg (by omega), if_neg (by omega), if_neg (by omega), if_neg (by omega)]; exact ⟨sv (by unfold vyR; rw [if_pos (by omega)]), hCV⟩)
                      | (refine ⟨fun q hq => (hFI.2 q (by omega) (by omega)).trans (mg_n (by omega) rfl), ?_⟩; rw [if_neg (by omega), if_neg (by omega), if_neg (by omega), if_neg (by omega), if_neg (by omega)]; exact ⟨sv (by unfold vyR; rw [if_neg (by omega), if_pos (by omega)]), hCV⟩)
                      | (refine ⟨fun q hq => (hFI.2 q (by omega) (by omega)).trans (mg_n (by omega) rfl), ?_⟩; rw [if_neg (by omega), if_neg (by omega), if_neg (by omega), if_neg (by omega), if_neg (by omega)]; exact ⟨sv (vyR_n (by omega) c_129), hCV⟩)
                · refine p_iload (pc := 122) C dX4_voyage_122 rfl ?_
                  refine p_iret (pc := 124) C dX4_voyage_124 ?_
                  first
                    | (refine ⟨fun q hq => by (repeat (refine mg_n (by omega) ?_)); rfl, ?_⟩; rw [if_pos (by omega)]; exact ⟨rfl, CV_0 hV⟩)
                    | (refine ⟨fun q hq => by (repeat (refine mg_n (by omega) ?_)); rfl, ?_⟩; rw [if_neg (by omega), if_pos (by omega)]; exact ⟨rfl, CV_0 hV⟩)
                    | (refine ⟨fun q hq => by (repeat (refine mg_n (by omega) ?_)); rfl, ?_⟩; rw [if_neg (by omega), if_neg (by omega), if_pos (by omega)]; exact ⟨rfl, CV_0 hV⟩)
                    | (refine ⟨fun q hq => by (repeat (refine mg_n (by omega) ?_)); rfl, ?_⟩; rw [if_neg (by omega), if_neg (by omega), if_neg (by omega), if_pos (by omega)]; exact ⟨rfl, CV_0 hV⟩)
                    | (refine ⟨fun q hq => by (repeat (refine mg_n (by omega) ?_)); rfl, ?_⟩; rw [if_neg (by omega), if_neg (by omega), if_neg (by omega), if_neg (by omega), if_pos (by omega)]; exact ⟨rfl, CV_0 hV⟩)
                    | (refine ⟨fun q hq => (hFI.2 q (by omega) (by omega)).trans (mg_n (by omega) rfl), ?_⟩; rw [if_neg (by omega), if_neg (by omega), if_neg (by omega), if_neg (by omega), if_neg (by omega)]; exact ⟨sv (by unfold vyR; rw [if_pos (by omega)]), hCV⟩)
                    | (refine ⟨fun q hq => (hFI.2 q (by omega) (by omega)).trans (mg_n (by omega) rfl), ?_⟩; rw [if_neg (by omega), if_neg (by omega), if_neg (by omega), if_neg (by omega), if_neg (by omega)]; exact ⟨sv (by unfold vyR; rw [if_neg (by omega), if_pos (by omega)]), hCV⟩)
                    | (refine ⟨fun q hq => (hFI.2 q (by omega) (by omega)).trans (mg_n (by omega) rfl), ?_⟩; rw [if_neg (by omega), if_neg (by omega), if_neg (by omega), if_neg (by omega), if_neg (by omega)]; exact ⟨sv (vyR_n (by omega) c_129), hCV⟩)
              · refine p_iload (pc := 102) C dX4_voyage_102 rfl ?_
                refine p_iret (pc := 104) C dX4_voyage_104 ?_
                first
                  | (refine ⟨fun q hq => by (repeat (refine mg_n (by omega) ?_)); rfl, ?_⟩; rw [if_pos (by omega)]; exact ⟨rfl, CV_0 hV⟩)
                  | (refine ⟨fun q hq => by (repeat (refine mg_n (by omega) ?_)); rfl, ?_⟩; rw [if_neg (by omega), if_pos (by omega)]; exact ⟨rfl, CV_0 hV⟩)
                  | (refine ⟨fun q hq => by (repeat (refine mg_n (by omega) ?_)); rfl, ?_⟩; rw [if_neg (by omega), if_neg (by omega), if_pos (by omega)]; exact ⟨rfl, CV_0 hV⟩)
                  | (refine ⟨fun q hq => by (repeat (refine mg_n (by omega) ?_)); rfl, ?_⟩; rw [if_neg (by omega), if_neg (by omega), if_neg (by omega), if_pos (by omega)]; exact ⟨rfl, CV_0 hV⟩)
                  | (refine ⟨fun q hq => by (repeat (refine mg_n (by omega) ?_)); rfl, ?_⟩; rw [if_neg (by omega), if_neg (by omega), if_neg (by omega), if_neg (by omega), if_pos (by omega)]; exact ⟨rfl, CV_0 hV⟩)
                  | (refine ⟨fun q hq => (hFI.2 q (by omega) (by omega)).trans (mg_n (by omega) rfl), ?_⟩; rw [if_neg (by omega), if_neg (by omega), if_neg (by omega), if_neg (by omega), if_neg (by omega)]; exact ⟨sv (by unfold vyR; rw [if_pos (by omega)]), hCV⟩)
                  | (refine ⟨fun q hq => (hFI.2 q (by omega) (by omega)).trans (mg_n (by omega) rfl), ?_⟩; rw [if_neg (by omega), if_neg (by omega), if_neg (by omega), if_neg (by omega), if_neg (by omega)]; exact ⟨sv (by unfold vyR; rw [if_neg (by omega), if_pos (by omega)]), hCV⟩)
                  | (refine ⟨fun q hq => (hFI.2 q (by omega) (by omega)).trans (mg_n (by omega) rfl), ?_⟩; rw [if_neg (by omega), if_neg (by omega), if_neg (by omega), if_neg (by omega), if_neg (by omega)]; exact ⟨sv (vyR_n (by omega) c_129), hCV⟩)
            · refine p_bipush (pc := 83) C dX4_voyage_83 (by decide) ?_
              refine p_iret (pc := 85) C dX4_voyage_85 ?_
              first
                | (refine ⟨fun q hq => by (repeat (refine mg_n (by omega) ?_)); rfl, ?_⟩; rw [if_pos (by omega)]; exact ⟨rfl, CV_0 hV⟩)
                | (refine ⟨fun q hq => by (repeat (refine mg_n (by omega) ?_)); rfl, ?_⟩; rw [if_neg (by omega), if_pos (by omega)]; exact ⟨rfl, CV_0 hV⟩)
                | (refine ⟨fun q hq => by (repeat (refine mg_n (by omega) ?_)); rfl, ?_⟩; rw [if_neg (by omega), if_neg (by omega), if_pos (by omega)]; exact ⟨rfl, CV_0 hV⟩)
                | (refine ⟨fun q hq => by (repeat (refine mg_n (by omega) ?_)); rfl, ?_⟩; rw [if_neg (by omega), if_neg (by omega), if_neg (by omega), if_pos (by omega)]; exact ⟨rfl, CV_0 hV⟩)
                | (refine ⟨fun q hq => by (repeat (refine mg_n (by omega) ?_)); rfl, ?_⟩; rw [if_neg (by omega), if_neg (by omega), if_neg (by omega), if_neg (by omega), if_pos (by omega)]; exact ⟨rfl, CV_0 hV⟩)
                | (refine ⟨fun q hq => (hFI.2 q (by omega) (by omega)).trans (mg_n (by omega) rfl), ?_⟩; rw [if_neg (by omega), if_neg (by omega), if_neg (by omega), if_neg (by omega), if_neg (by omega)]; exact ⟨sv (by unfold vyR; rw [if_pos (by omega)]), hCV⟩)
                | (refine ⟨fun q hq => (hFI.2 q (by omega) (by omega)).trans (mg_n (by omega) rfl), ?_⟩; rw [if_neg (by omega), if_neg (by omega), if_neg (by omega), if_neg (by omega), if_neg (by omega)]; exact ⟨sv (by unfold vyR; rw [if_neg (by omega), if_pos (by omega)]), hCV⟩)
                | (refine ⟨fun q hq => (hFI.2 q (by omega) (by omega)).trans (mg_n (by omega) rfl), ?_⟩; rw [if_neg (by omega), if_neg (by omega), if_neg (by omega), if_neg (by omega), if_neg (by omega)]; exact ⟨sv (vyR_n (by omega) c_129), hCV⟩)
          · refine p_aload_n (pc := 69) C dX4_voyage_69 rfl ?_
            refine p_iload (pc := 70) C dX4_voyage_70 rfl ?_
            refine p_callVF (pc := 72) C ln_X4_74 dX4_voyage_72 (k_X4_faulted (by have := @fot_r (th s) (la s) (ln s) l i (2 * n); omega) (by (repeat refine mg_n (by omega) ?_); first | assumption | exact mup_s _ _ _)) ⟨by omega, by omega⟩ (by (repeat refine mg_n (by omega) ?_); first | assumption | exact mup_s _ _ _) rfl rfl rfl rfl (Nat.le_of_ble_eq_true rfl) ?_
            refine p_mem (mup_mup _ _ _ _) ?_
            refine p_iret (pc := 75) C dX4_voyage_75 ?_
            first
              | (refine ⟨fun q hq => by (repeat (refine mg_n (by omega) ?_)); rfl, ?_⟩; rw [if_pos (by omega)]; exact ⟨rfl, CV_0 hV⟩)
              | (refine ⟨fun q hq => by (repeat (refine mg_n (by omega) ?_)); rfl, ?_⟩; rw [if_neg (by omega), if_pos (by omega)]; exact ⟨rfl, CV_0 hV⟩)
              | (refine ⟨fun q hq => by (repeat (refine mg_n (by omega) ?_)); rfl, ?_⟩; rw [if_neg (by omega), if_neg (by omega), if_pos (by omega)]; exact ⟨rfl, CV_0 hV⟩)
              | (refine ⟨fun q hq => by (repeat (refine mg_n (by omega) ?_)); rfl, ?_⟩; rw [if_neg (by omega), if_neg (by omega), if_neg (by omega), if_pos (by omega)]; exact ⟨rfl, CV_0 hV⟩)
              | (refine ⟨fun q hq => by (repeat (refine mg_n (by omega) ?_)); rfl, ?_⟩; rw [if_neg (by omega), if_neg (by omega), if_neg (by omega), if_neg (by omega), if_pos (by omega)]; exact ⟨rfl, CV_0 hV⟩)
              | (refine ⟨fun q hq => (hFI.2 q (by omega) (by omega)).trans (mg_n (by omega) rfl), ?_⟩; rw [if_neg (by omega), if_neg (by omega), if_neg (by omega), if_neg (by omega), if_neg (by omega)]; exact ⟨sv (by unfold vyR; rw [if_pos (by omega)]), hCV⟩)
              | (refine ⟨fun q hq => (hFI.2 q (by omega) (by omega)).trans (mg_n (by omega) rfl), ?_⟩; rw [if_neg (by omega), if_neg (by omega), if_neg (by omega), if_neg (by omega), if_neg (by omega)]; exact ⟨sv (by unfold vyR; rw [if_neg (by omega), if_pos (by omega)]), hCV⟩)
              | (refine ⟨fun q hq => (hFI.2 q (by omega) (by omega)).trans (mg_n (by omega) rfl), ?_⟩; rw [if_neg (by omega), if_neg (by omega), if_neg (by omega), if_neg (by omega), if_neg (by omega)]; exact ⟨sv (vyR_n (by omega) c_129), hCV⟩)
        · refine p_bipush (pc := 40) C dX4_voyage_40 (by decide) ?_
          refine p_iret (pc := 42) C dX4_voyage_42 ?_
          first
            | (refine ⟨fun q hq => by (repeat (refine mg_n (by omega) ?_)); rfl, ?_⟩; rw [if_pos (by omega)]; exact ⟨rfl, CV_0 hV⟩)
            | (refine ⟨fun q hq => by (repeat (refine mg_n (by omega) ?_)); rfl, ?_⟩; rw [if_neg (by omega), if_pos (by omega)]; exact ⟨rfl, CV_0 hV⟩)
            | (refine ⟨fun q hq => by (repeat (refine mg_n (by omega) ?_)); rfl, ?_⟩; rw [if_neg (by omega), if_neg (by omega), if_pos (by omega)]; exact ⟨rfl, CV_0 hV⟩)
            | (refine ⟨fun q hq => by (repeat (refine mg_n (by omega) ?_)); rfl, ?_⟩; rw [if_neg (by omega), if_neg (by omega), if_neg (by omega), if_pos (by omega)]; exact ⟨rfl, CV_0 hV⟩)
            | (refine ⟨fun q hq => by (repeat (refine mg_n (by omega) ?_)); rfl, ?_⟩; rw [if_neg (by omega), if_neg (by omega), if_neg (by omega), if_neg (by omega), if_pos (by omega)]; exact ⟨rfl, CV_0 hV⟩)
            | (refine ⟨fun q hq => (hFI.2 q (by omega) (by omega)).trans (mg_n (by omega) rfl), ?_⟩; rw [if_neg (by omega), if_neg (by omega), if_neg (by omega), if_neg (by omega), if_neg (by omega)]; exact ⟨sv (by unfold vyR; rw [if_pos (by omega)]), hCV⟩)
            | (refine ⟨fun q hq => (hFI.2 q (by omega) (by omega)).trans (mg_n (by omega) rfl), ?_⟩; rw [if_neg (by omega), if_neg (by omega), if_neg (by omega), if_neg (by omega), if_neg (by omega)]; exact ⟨sv (by unfold vyR; rw [if_neg (by omega), if_pos (by omega)]), hCV⟩)
            | (refine ⟨fun q hq => (hFI.2 q (by omega) (by omega)).trans (mg_n (by omega) rfl), ?_⟩; rw [if_neg (by omega), if_neg (by omega), if_neg (by omega), if_neg (by omega), if_neg (by omega)]; exact ⟨sv (vyR_n (by omega) c_129), hCV⟩)
  · refine p_iconst (pc := 12) C dX4_voyage_12 (by decide) ?_
    refine p_iret (pc := 13) C dX4_voyage_13 ?_
    first
      | (refine ⟨fun q hq => by (repeat (refine mg_n (by omega) ?_)); rfl, ?_⟩; rw [if_pos (by omega)]; exact ⟨rfl, CV_0 hV⟩)
      | (refine ⟨fun q hq => by (repeat (refine mg_n (by omega) ?_)); rfl, ?_⟩; rw [if_neg (by omega), if_pos (by omega)]; exact ⟨rfl, CV_0 hV⟩)
      | (refine ⟨fun q hq => by (repeat (refine mg_n (by omega) ?_)); rfl, ?_⟩; rw [if_neg (by omega), if_neg (by omega), if_pos (by omega)]; exact ⟨rfl, CV_0 hV⟩)
      | (refine ⟨fun q hq => by (repeat (refine mg_n (by omega) ?_)); rfl, ?_⟩; rw [if_neg (by omega), if_neg (by omega), if_neg (by omega), if_pos (by omega)]; exact ⟨rfl, CV_0 hV⟩)
      | (refine ⟨fun q hq => by (repeat (refine mg_n (by omega) ?_)); rfl, ?_⟩; rw [if_neg (by omega), if_neg (by omega), if_neg (by omega), if_neg (by omega), if_pos (by omega)]; exact ⟨rfl, CV_0 hV⟩)
      | (refine ⟨fun q hq => (hFI.2 q (by omega) (by omega)).trans (mg_n (by omega) rfl), ?_⟩; rw [if_neg (by omega), if_neg (by omega), if_neg (by omega), if_neg (by omega), if_neg (by omega)]; exact ⟨sv (by unfold vyR; rw [if_pos (by omega)]), hCV⟩)
      | (refine ⟨fun q hq => (hFI.2 q (by omega) (by omega)).trans (mg_n (by omega) rfl), ?_⟩; rw [if_neg (by omega), if_neg (by omega), if_neg (by omega), if_neg (by omega), if_neg (by omega)]; exact ⟨sv (by unfold vyR; rw [if_neg (by omega), if_pos (by omega)]), hCV⟩)
      | (refine ⟨fun q hq => (hFI.2 q (by omega) (by omega)).trans (mg_n (by omega) rfl), ?_⟩; rw [if_neg (by omega), if_neg (by omega), if_neg (by omega), if_neg (by omega), if_neg (by omega)]; exact ⟨sv (vyR_n (by omega) c_129), hCV⟩)
