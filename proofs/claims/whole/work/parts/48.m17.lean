/-- what was read: so many ports and ships -/
def RK (G : Int → Int) (fs q : Int) (g : Int → Int) (k : Int) : Prop := ∀ i, 0 ≤ i → i < k → g (8 * i) = kbc (G (fs + (1 + q + 9 * i) + 1)) ∧ ∀ j, 1 ≤ j → j < 8 → g (8 * i + j) = G (fs + (1 + q + 9 * i) + 1 + j) - 48

set_option maxHeartbeats 300000 in
set_option maxRecDepth 100000 in
theorem k_X5_readSea {K : KX} {d : Nat} {μ : Int → ME} {e fs n : Int} {fl tr np ns day at_ rP rS lp lw lf sL sF nr : Int} (h0 : μ 42 = oM fl tr np ns day at_ rP rS lp lw lf sL sF nr) (hat : at_ = fs) {G : Int → Int} (h45 : μ 45 = mA 240 G) {z2 z3 : Int → Int} (h52 : μ 52 = mA 6 z2) (h53 : μ 53 = mA 40 z3) (he : e = fs + n) (hb : 0 ≤ fs ∧ e ≤ 240) : Ct K (d + 3) yX5_readSea cX5_readSea 2 (some .boolean) [vR 42, vI e] μ (pE (vI (if ffT G fs n = -9 then 1 else 0)) (fun μ' => ∃ (x q k : Int) (g2 g3 : Int → Int), μ' = mup (mup (mup μ 42 (oM (fl) tr (np) (ns) (day) (x) (q) (k) lp lw lf sL sF (nr))) 52 (mA 6 g2)) 53 (mA 40 g3) ∧ (ffT G fs n ≠ -9 → x = fs + ffT G fs n) ∧ (ffT G fs n = -9 → q = cpN G fs n 0 6 ∧ okT G fs n q k ∧ (∀ j, 0 ≤ j → j < q → g2 j = G (fs + 1 + j) - 48) ∧ RK G fs q g3 k))) := by
  refine Ct.of (by decide) (Nat.le_of_ble_eq_true rfl) (fun X C => ?_)
  have L : ∀ (t : Nat) (k x q : Int) (f2 y3 : Int → Int), ((0 ≤ k ∧ k + (t : Int) = 5) ∧ (2 ≤ q ∧ q ≤ 6)) → (x = fs + (1 + q + 9 * k) ∧ 1 + q + 9 * k ≤ n) → ffN G fs n q (1 + q + 9 * k) k t = ffT G fs n → RK G fs q y3 k → (q = cpN G fs n 0 6 ∧ ∀ j, 0 ≤ j → j < q → f2 j = G (fs + 1 + j) - 48) → PW K X 2 (QM K X (pE (vI (if ffT G fs n = -9 then 1 else 0)) (fun μ' => ∃ (x q k : Int) (g2 g3 : Int → Int), μ' = mup (mup (mup μ 42 (oM (fl) tr (np) (ns) (day) (x) (q) (k) lp lw lf sL sF (nr))) 52 (mA 6 g2)) 53 (mA 40 g3) ∧ (ffT G fs n ≠ -9 → x = fs + ffT G fs n) ∧ (ffT G fs n = -9 → q = cpN G fs n 0 6 ∧ okT G fs n q k ∧ (∀ j, 0 ≤ j → j < q → g2 j = G (fs + 1 + j) - 48) ∧ RK G fs q g3 k)))) 25 [(0, vR 42), (1, vI e)] [] (mup (mup (mup μ 42 (oM (fl) tr (np) (ns) (day) (x) (q) (k) lp lw lf sL sF (nr))) 52 (mA 6 f2)) 53 (mA 40 y3)) := by
    intro t
    induction t with
    | zero =>
      intro k x q f2 y3 g1 g2 g3 g4 g5
      rw [ffN] at g3
      refine p_aload_n (pc := 25) C dX5_readSea_25 rfl ?_
      refine p_get (pc := 26) C fl_X5_104 dX5_readSea_26 ⟨by omega, by omega⟩ (by (repeat refine mg_n (by omega) ?_); first | assumption | exact mup_s _ _ _) (by rfl) ?_
      refine p_if_eq (pc := 29) (tgt := 48) C dX5_readSea_29 (by decide) (fun h => by exfalso; omega) (fun c_29 => ?_)
      refine p_aload_n (pc := 32) C dX5_readSea_32 rfl ?_
      refine p_get (pc := 33) C fl_X5_104 dX5_readSea_33 ⟨by omega, by omega⟩ (by (repeat refine mg_n (by omega) ?_); first | assumption | exact mup_s _ _ _) (by rfl) ?_
      refine p_iconst (pc := 36) C dX5_readSea_36 (by decide) ?_
      refine p_icmp_ge (pc := 37) (tgt := 68) C dX5_readSea_37 (by decide) (fun c_37 => ?_) (fun h => by exfalso; omega)
      refine p_aload_n (pc := 68) C dX5_readSea_68 rfl ?_
      refine p_get (pc := 69) C fl_X5_77 dX5_readSea_69 ⟨by omega, by omega⟩ (by (repeat refine mg_n (by omega) ?_); first | assumption | exact mup_s _ _ _) (by rfl) ?_
      refine p_iload_n (pc := 72) C dX5_readSea_72 rfl ?_
      refine p_icmp_ne (pc := 73) (tgt := 80) C dX5_readSea_73 (by decide) (fun c_73 => ?_) (fun c_73 => ?_)
      · refine p_iconst (pc := 80) C dX5_readSea_80 (by decide) ?_
        refine p_zret (pc := 81) C dX5_readSea_81 (by first | exact Or.inl rfl | exact Or.inr rfl | (split <;> simp)) ?_
        first
          | (rw [if_pos (by omega)] at g3; exact ⟨sv (by rw [if_pos (by omega)]), x, q, k, f2, y3, rfl, fun z => absurd (show ffT G fs n = -9 by omega) z, fun z => by obtain ⟨m, hm⟩ := ffT_ok z; rw [← g5.1] at hm; have hmk : m = k := (by have := hm.2.2.1; omega); rw [hmk] at hm; exact ⟨g5.1, hm, g5.2, g4⟩⟩)
          | (rw [if_neg (by omega)] at g3; exact ⟨sv (by rw [if_neg (by omega)]), x, q, k, f2, y3, rfl, fun z => by omega, fun z => absurd z (by omega)⟩)
      · refine p_iconst (pc := 76) C dX5_readSea_76 (by decide) ?_
        refine p_goto (pc := 77) (tgt := 81) C dX5_readSea_77 (by decide) ?_
        refine p_zret (pc := 81) C dX5_readSea_81 (by first | exact Or.inl rfl | exact Or.inr rfl | (split <;> simp)) ?_
        first
          | (rw [if_pos (by omega)] at g3; exact ⟨sv (by rw [if_pos (by omega)]), x, q, k, f2, y3, rfl, fun z => absurd (show ffT G fs n = -9 by omega) z, fun z => by obtain ⟨m, hm⟩ := ffT_ok z; rw [← g5.1] at hm; have hmk : m = k := (by have := hm.2.2.1; omega); rw [hmk] at hm; exact ⟨g5.1, hm, g5.2, g4⟩⟩)
          | (rw [if_neg (by omega)] at g3; exact ⟨sv (by rw [if_neg (by omega)]), x, q, k, f2, y3, rfl, fun z => by omega, fun z => absurd z (by omega)⟩)
    | succ t ih =>
      intro k x q f2 y3 g1 g2 g3 g4 g5
      rw [ffN] at g3
      have hr := csN_r G (fs + (1 + q + 9 * k)) (n - (1 + q + 9 * k)) q 9 0
      have hn := csN_n G (fs + (1 + q + 9 * k)) (n - (1 + q + 9 * k)) q 9 0 (by omega)
      refine p_aload_n (pc := 25) C dX5_readSea_25 rfl ?_
      refine p_get (pc := 26) C fl_X5_104 dX5_readSea_26 ⟨by omega, by omega⟩ (by (repeat refine mg_n (by omega) ?_); first | assumption | exact mup_s _ _ _) (by rfl) ?_
      refine p_if_eq (pc := 29) (tgt := 48) C dX5_readSea_29 (by decide) (fun c_29 => ?_) (fun c_29 => ?_)
      · refine p_aload_n (pc := 48) C dX5_readSea_48 rfl ?_
        refine p_iload_n (pc := 49) C dX5_readSea_49 rfl ?_
        refine p_bipush (pc := 50) C dX5_readSea_50 (by decide) ?_
        refine p_callVF (pc := 52) C ln_X5_113 dX5_readSea_52 (k_X5_isSign (by (repeat refine mg_n (by omega) ?_); first | assumption | exact mup_s _ _ _) (by (repeat refine mg_n (by omega) ?_); first | assumption | exact mup_s _ _ _) (by omega)) ⟨by omega, by omega⟩ (by (repeat refine mg_n (by omega) ?_); first | assumption | exact mup_s _ _ _) rfl rfl rfl rfl (Nat.le_of_ble_eq_true rfl) ?_
        refine p_mem (mup_y _ (by omega) (by omega) _ _ _ _) ?_
        refine p_ifeq_b (pc := 55) (tgt := 66) C dX5_readSea_55 (by decide) (fun c_55 => ?_) (fun c_55 => ?_)
        · refine p_iconst (pc := 66) C dX5_readSea_66 (by decide) ?_
          refine p_zret (pc := 67) C dX5_readSea_67 (by first | exact Or.inl rfl | exact Or.inr rfl | (split <;> simp)) ?_
          first
            | (exfalso; omega)
            | (rw [if_pos (by omega)] at g3; exact ⟨sv (by rw [if_pos (by omega)]), x, q, k, f2, y3, rfl, fun z => absurd (show ffT G fs n = -9 by omega) z, fun z => by obtain ⟨m, hm⟩ := ffT_ok z; rw [← g5.1] at hm; have hmk : m = k := (by have := hm.2.2.1; omega); rw [hmk] at hm; exact ⟨g5.1, hm, g5.2, g4⟩⟩)
            | (rw [if_neg (by omega)] at g3
               rw [show fs + (1 + q + 9 * k) = x by omega, show n - (1 + q + 9 * k) = e - x by omega] at g3 hr hn
               rw [cs_0f (show ¬ (0 < e - x ∧ G x = 59) by omega)] at g3 hr hn
               rw [if_pos (by omega)] at g3
               rw [show sgA G x e 59 = x from if_neg c_55]
               exact ⟨sv (by rw [if_neg (by omega)]), x, q, k, f2, y3, rfl, fun z => by omega, fun z => absurd z (by omega)⟩)
            | (rw [if_pos (by omega)] at g3
               exact ⟨sv (by rw [if_neg (by omega)]), x2, q, k2, f2, f3, rfl, fun z => by omega, fun z => absurd z (by omega)⟩)
        · refine p_mem (by rw [show sgA G x e 59 = x + 1 from if_pos c_55]) ?_
          refine p_aload_n (pc := 58) C dX5_readSea_58 rfl ?_
          refine p_iload_n (pc := 59) C dX5_readSea_59 rfl ?_
          refine p_callVE (pc := 60) C ln_X5_120 dX5_readSea_60 (k_X5_readShip (a := x) (by (repeat refine mg_n (by omega) ?_); first | assumption | exact mup_s _ _ _) rfl (by (repeat refine mg_n (by omega) ?_); first | assumption | exact mup_s _ _ _) (by (repeat refine mg_n (by omega) ?_); first | assumption | exact mup_s _ _ _) (by omega) (by omega) (by omega)) ⟨by omega, by omega⟩ (by (repeat refine mg_n (by omega) ?_); first | assumption | exact mup_s _ _ _) rfl rfl rfl rfl (Nat.le_of_ble_eq_true rfl) (fun μ' hpost => ?_)
          obtain ⟨x2, k2, f3, rfl, hx2, hk2, hf3, hf4⟩ := hpost
          refine p_mem (by rw [mup_y _ (by omega) (by omega), mup_mup]) ?_
          rw [if_neg (by omega)] at g3
          rw [show fs + (1 + q + 9 * k) = x by omega, show n - (1 + q + 9 * k) = e - x by omega] at g3 hr hn
          rw [cs_0t (show 0 < e - x ∧ G x = 59 by omega)] at g3 hr hn
          refine p_ifne_b (pc := 63) (tgt := 25) C dX5_readSea_63 (by decide) (fun c_63 => ?_) (fun c_63 => ?_)
          · rw [if_neg (by omega)] at g3
            have h9 : csN G x (e - x) q 1 8 = 9 := c_63
            rw [h9] at g3
            obtain rfl := hk2 h9
            refine ih (k + 1) x2 q f2 f3 (by omega) (by omega) (by rw [show 1 + q + 9 * (k + 1) = 1 + q + 9 * k + 9 by omega]; exact g3) (fun i i0 i1 => ?_) g5
            by_cases e1 : i = k
            · subst e1
              have := hf4 h9
              rw [g2.1] at this
              exact this
            · have := g4 i i0 (by omega)
              exact ⟨by rw [hf3 _ (by omega)]; exact this.1, fun j j0 j1 => by rw [hf3 _ (by omega)]; exact this.2 j j0 j1⟩
          · refine p_iconst (pc := 66) C dX5_readSea_66 (by decide) ?_
            refine p_zret (pc := 67) C dX5_readSea_67 (by first | exact Or.inl rfl | exact Or.inr rfl | (split <;> simp)) ?_
            first
              | (exfalso; omega)
              | (rw [if_pos (by omega)] at g3; exact ⟨sv (by rw [if_pos (by omega)]), x, q, k, f2, y3, rfl, fun z => absurd (show ffT G fs n = -9 by omega) z, fun z => by obtain ⟨m, hm⟩ := ffT_ok z; rw [← g5.1] at hm; have hmk : m = k := (by have := hm.2.2.1; omega); rw [hmk] at hm; exact ⟨g5.1, hm, g5.2, g4⟩⟩)
              | (rw [if_neg (by omega)] at g3
                 rw [show fs + (1 + q + 9 * k) = x by omega, show n - (1 + q + 9 * k) = e - x by omega] at g3 hr hn
                 rw [cs_0f (show ¬ (0 < e - x ∧ G x = 59) by omega)] at g3 hr hn
                 rw [if_pos (by omega)] at g3
                 rw [show sgA G x e 59 = x from if_neg c_55]
                 exact ⟨sv (by rw [if_neg (by omega)]), x, q, k, f2, y3, rfl, fun z => by omega, fun z => absurd z (by omega)⟩)
              | (rw [if_pos (by omega)] at g3
                 exact ⟨sv (by rw [if_neg (by omega)]), x2, q, k2, f2, f3, rfl, fun z => by omega, fun z => absurd z (by omega)⟩)
      · refine p_aload_n (pc := 32) C dX5_readSea_32 rfl ?_
        refine p_get (pc := 33) C fl_X5_104 dX5_readSea_33 ⟨by omega, by omega⟩ (by (repeat refine mg_n (by omega) ?_); first | assumption | exact mup_s _ _ _) (by rfl) ?_
        refine p_iconst (pc := 36) C dX5_readSea_36 (by decide) ?_
        refine p_icmp_ge (pc := 37) (tgt := 68) C dX5_readSea_37 (by decide) (fun h => by exfalso; omega) (fun c_37 => ?_)
        refine p_aload_n (pc := 40) C dX5_readSea_40 rfl ?_
        refine p_get (pc := 41) C fl_X5_77 dX5_readSea_41 ⟨by omega, by omega⟩ (by (repeat refine mg_n (by omega) ?_); first | assumption | exact mup_s _ _ _) (by rfl) ?_
        refine p_iload_n (pc := 44) C dX5_readSea_44 rfl ?_
        refine p_icmp_ge (pc := 45) (tgt := 68) C dX5_readSea_45 (by decide) (fun c_45 => ?_) (fun c_45 => ?_)
        · refine p_aload_n (pc := 68) C dX5_readSea_68 rfl ?_
          refine p_get (pc := 69) C fl_X5_77 dX5_readSea_69 ⟨by omega, by omega⟩ (by (repeat refine mg_n (by omega) ?_); first | assumption | exact mup_s _ _ _) (by rfl) ?_
          refine p_iload_n (pc := 72) C dX5_readSea_72 rfl ?_
          refine p_icmp_ne (pc := 73) (tgt := 80) C dX5_readSea_73 (by decide) (fun c_73 => ?_) (fun c_73 => ?_)
          · refine p_iconst (pc := 80) C dX5_readSea_80 (by decide) ?_
            refine p_zret (pc := 81) C dX5_readSea_81 (by first | exact Or.inl rfl | exact Or.inr rfl | (split <;> simp)) ?_
            first
              | (exfalso; omega)
              | (rw [if_pos (by omega)] at g3; exact ⟨sv (by rw [if_pos (by omega)]), x, q, k, f2, y3, rfl, fun z => absurd (show ffT G fs n = -9 by omega) z, fun z => by obtain ⟨m, hm⟩ := ffT_ok z; rw [← g5.1] at hm; have hmk : m = k := (by have := hm.2.2.1; omega); rw [hmk] at hm; exact ⟨g5.1, hm, g5.2, g4⟩⟩)
              | (rw [if_neg (by omega)] at g3
                 rw [show fs + (1 + q + 9 * k) = x by omega, show n - (1 + q + 9 * k) = e - x by omega] at g3 hr hn
                 rw [cs_0f (show ¬ (0 < e - x ∧ G x = 59) by omega)] at g3 hr hn
                 rw [if_pos (by omega)] at g3
                 rw [show sgA G x e 59 = x from if_neg c_55]
                 exact ⟨sv (by rw [if_neg (by omega)]), x, q, k, f2, y3, rfl, fun z => by omega, fun z => absurd z (by omega)⟩)
              | (rw [if_pos (by omega)] at g3
                 exact ⟨sv (by rw [if_neg (by omega)]), x2, q, k2, f2, f3, rfl, fun z => by omega, fun z => absurd z (by omega)⟩)
          · refine p_iconst (pc := 76) C dX5_readSea_76 (by decide) ?_
            refine p_goto (pc := 77) (tgt := 81) C dX5_readSea_77 (by decide) ?_
            refine p_zret (pc := 81) C dX5_readSea_81 (by first | exact Or.inl rfl | exact Or.inr rfl | (split <;> simp)) ?_
            first
              | (exfalso; omega)
              | (rw [if_pos (by omega)] at g3; exact ⟨sv (by rw [if_pos (by omega)]), x, q, k, f2, y3, rfl, fun z => absurd (show ffT G fs n = -9 by omega) z, fun z => by obtain ⟨m, hm⟩ := ffT_ok z; rw [← g5.1] at hm; have hmk : m = k := (by have := hm.2.2.1; omega); rw [hmk] at hm; exact ⟨g5.1, hm, g5.2, g4⟩⟩)
              | (rw [if_neg (by omega)] at g3
                 rw [show fs + (1 + q + 9 * k) = x by omega, show n - (1 + q + 9 * k) = e - x by omega] at g3 hr hn
                 rw [cs_0f (show ¬ (0 < e - x ∧ G x = 59) by omega)] at g3 hr hn
                 rw [if_pos (by omega)] at g3
                 rw [show sgA G x e 59 = x from if_neg c_55]
                 exact ⟨sv (by rw [if_neg (by omega)]), x, q, k, f2, y3, rfl, fun z => by omega, fun z => absurd z (by omega)⟩)
              | (rw [if_pos (by omega)] at g3
                 exact ⟨sv (by rw [if_neg (by omega)]), x2, q, k2, f2, f3, rfl, fun z => by omega, fun z => absurd z (by omega)⟩)
        · refine p_aload_n (pc := 48) C dX5_readSea_48 rfl ?_
          refine p_iload_n (pc := 49) C dX5_readSea_49 rfl ?_
          refine p_bipush (pc := 50) C dX5_readSea_50 (by decide) ?_
          refine p_callVF (pc := 52) C ln_X5_113 dX5_readSea_52 (k_X5_isSign (by (repeat refine mg_n (by omega) ?_); first | assumption | exact mup_s _ _ _) (by (repeat refine mg_n (by omega) ?_); first | assumption | exact mup_s _ _ _) (by omega)) ⟨by omega, by omega⟩ (by (repeat refine mg_n (by omega) ?_); first | assumption | exact mup_s _ _ _) rfl rfl rfl rfl (Nat.le_of_ble_eq_true rfl) ?_
          refine p_mem (mup_y _ (by omega) (by omega) _ _ _ _) ?_
          refine p_ifeq_b (pc := 55) (tgt := 66) C dX5_readSea_55 (by decide) (fun c_55 => ?_) (fun c_55 => ?_)
          · refine p_iconst (pc := 66) C dX5_readSea_66 (by decide) ?_
            refine p_zret (pc := 67) C dX5_readSea_67 (by first | exact Or.inl rfl | exact Or.inr rfl | (split <;> simp)) ?_
            first
              | (exfalso; omega)
              | (rw [if_pos (by omega)] at g3; exact ⟨sv (by rw [if_pos (by omega)]), x, q, k, f2, y3, rfl, fun z => absurd (show ffT G fs n = -9 by omega) z, fun z => by obtain ⟨m, hm⟩ := ffT_ok z; rw [← g5.1] at hm; have hmk : m = k := (by have := hm.2.2.1; omega); rw [hmk] at hm; exact ⟨g5.1, hm, g5.2, g4⟩⟩)
              | (rw [if_neg (by omega)] at g3
                 rw [show fs + (1 + q + 9 * k) = x by omega, show n - (1 + q + 9 * k) = e - x by omega] at g3 hr hn
                 rw [cs_0f (show ¬ (0 < e - x ∧ G x = 59) by omega)] at g3 hr hn
                 rw [if_pos (by omega)] at g3
                 rw [show sgA G x e 59 = x from if_neg c_55]
                 exact ⟨sv (by rw [if_neg (by omega)]), x, q, k, f2, y3, rfl, fun z => by omega, fun z => absurd z (by omega)⟩)
              | (rw [if_pos (by omega)] at g3
                 exact ⟨sv (by rw [if_neg (by omega)]), x2, q, k2, f2, f3, rfl, fun z => by omega, fun z => absurd z (by omega)⟩)
          · refine p_mem (by rw [show sgA G x e 59 = x + 1 from if_pos c_55]) ?_
            refine p_aload_n (pc := 58) C dX5_readSea_58 rfl ?_
            refine p_iload_n (pc := 59) C dX5_readSea_59 rfl ?_
            refine p_callVE (pc := 60) C ln_X5_120 dX5_readSea_60 (k_X5_readShip (a := x) (by (repeat refine mg_n (by omega) ?_); first | assumption | exact mup_s _ _ _) rfl (by (repeat refine mg_n (by omega) ?_); first | assumption | exact mup_s _ _ _) (by (repeat refine mg_n (by omega) ?_); first | assumption | exact mup_s _ _ _) (by omega) (by omega) (by omega)) ⟨by omega, by omega⟩ (by (repeat refine mg_n (by omega) ?_); first | assumption | exact mup_s _ _ _) rfl rfl rfl rfl (Nat.le_of_ble_eq_true rfl) (fun μ' hpost => ?_)
            obtain ⟨x2, k2, f3, rfl, hx2, hk2, hf3, hf4⟩ := hpost
            refine p_mem (by rw [mup_y _ (by omega) (by omega), mup_mup]) ?_
            rw [if_neg (by omega)] at g3
            rw [show fs + (1 + q + 9 * k) = x by omega, show n - (1 + q + 9 * k) = e - x by omega] at g3 hr hn
            rw [cs_0t (show 0 < e - x ∧ G x = 59 by omega)] at g3 hr hn
            refine p_ifne_b (pc := 63) (tgt := 25) C dX5_readSea_63 (by decide) (fun c_63 => ?_) (fun c_63 => ?_)
            · rw [if_neg (by omega)] at g3
              have h9 : csN G x (e - x) q 1 8 = 9 := c_63
              rw [h9] at g3
              obtain rfl := hk2 h9
              refine ih (k + 1) x2 q f2 f3 (by omega) (by omega) (by rw [show 1 + q + 9 * (k + 1) = 1 + q + 9 * k + 9 by omega]; exact g3) (fun i i0 i1 => ?_) g5
              by_cases e1 : i = k
              · subst e1
                have := hf4 h9
                rw [g2.1] at this
                exact this
              · have := g4 i i0 (by omega)
                exact ⟨by rw [hf3 _ (by omega)]; exact this.1, fun j j0 j1 => by rw [hf3 _ (by omega)]; exact this.2 j j0 j1⟩
            · refine p_iconst (pc := 66) C dX5_readSea_66 (by decide) ?_
              refine p_zret (pc := 67) C dX5_readSea_67 (by first | exact Or.inl rfl | exact Or.inr rfl | (split <;> simp)) ?_
              first
                | (exfalso; omega)
                | (rw [if_pos (by omega)] at g3; exact ⟨sv (by rw [if_pos (by omega)]), x, q, k, f2, y3, rfl, fun z => absurd (show ffT G fs n = -9 by omega) z, fun z => by obtain ⟨m, hm⟩ := ffT_ok z; rw [← g5.1] at hm; have hmk : m = k := (by have := hm.2.2.1; omega); rw [hmk] at hm; exact ⟨g5.1, hm, g5.2, g4⟩⟩)
                | (rw [if_neg (by omega)] at g3
                   rw [show fs + (1 + q + 9 * k) = x by omega, show n - (1 + q + 9 * k) = e - x by omega] at g3 hr hn
                   rw [cs_0f (show ¬ (0 < e - x ∧ G x = 59) by omega)] at g3 hr hn
                   rw [if_pos (by omega)] at g3
                   rw [show sgA G x e 59 = x from if_neg c_55]
                   exact ⟨sv (by rw [if_neg (by omega)]), x, q, k, f2, y3, rfl, fun z => by omega, fun z => absurd z (by omega)⟩)
                | (rw [if_pos (by omega)] at g3
                   exact ⟨sv (by rw [if_neg (by omega)]), x2, q, k2, f2, f3, rfl, fun z => by omega, fun z => absurd z (by omega)⟩)
  refine p_aload_n (pc := 0) C dX5_readSea_0 rfl ?_
  refine p_iconst (pc := 1) C dX5_readSea_1 (by decide) ?_
  refine p_putL (pc := 2) (fs' := [_, _, _, _, _, _, _, _, _, _, _, _, _, _, _, _, _, _, _, _, _, _, _, _, _, _, _, _, _, _, _]) C fp_X5_104 dX5_readSea_2 ⟨by omega, by omega⟩ (by (repeat refine mg_n (by omega) ?_); first | assumption | exact mup_s _ _ _) (by exact Nat.le_of_ble_eq_true rfl) (by rfl) ?_
  try refine p_mem (mup_mup _ _ _ _) ?_
  refine p_aload_n (pc := 5) C dX5_readSea_5 rfl ?_
  refine p_iload_n (pc := 6) C dX5_readSea_6 rfl ?_
  refine p_bipush (pc := 7) C dX5_readSea_7 (by decide) ?_
  refine p_callVF (pc := 9) C ln_X5_113 dX5_readSea_9 (k_X5_isSign (by (repeat refine mg_n (by omega) ?_); first | assumption | exact mup_s _ _ _) (by (repeat refine mg_n (by omega) ?_); first | assumption | exact mup_s _ _ _) (by omega)) ⟨by omega, by omega⟩ (by (repeat refine mg_n (by omega) ?_); first | assumption | exact mup_s _ _ _) rfl rfl rfl rfl (Nat.le_of_ble_eq_true rfl) ?_
  refine p_mem (mup_mup _ _ _ _) ?_
  refine p_ifeq_b (pc := 12) (tgt := 23) C dX5_readSea_12 (by decide) (fun c_12 => ?_) (fun c_12 => ?_)
  · refine p_iconst (pc := 23) C dX5_readSea_23 (by decide) ?_
    refine p_zret (pc := 24) C dX5_readSea_24 (by first | exact Or.inl rfl | exact Or.inr rfl | (split <;> simp)) ?_
    first
      | (have hf : ffT G fs n = 0 := if_pos (by subst hat; omega)
         refine ⟨sv (by rw [if_neg (by omega)]), sgA G at_ e 121, _, _, z2, z3, by rw [mup_id (a := 52) (mg_n (by omega) h52), mup_id (a := 53) (mg_n (by omega) h53)], fun z => ?_, fun z => absurd z (by omega)⟩
         rw [show sgA G at_ e 121 = at_ from if_neg c_12]; omega)
      | (have hf : ffT G at_ n = 1 + cpN G at_ n 0 6 := by unfold ffT; rw [if_neg (by omega), if_pos (by omega)]
         exact ⟨sv (by rw [if_neg (by omega)]), x, q, 0, f2, z3, by rw [mup_id (a := 53) (mg_n (by omega) (mg_n (by omega) h53))], fun z => by omega, fun z => absurd z (by omega)⟩)
  · subst hat
    refine p_mem (by rw [show sgA G at_ e 121 = at_ + 1 from if_pos c_12]) ?_
    refine p_aload_n (pc := 15) C dX5_readSea_15 rfl ?_
    refine p_iload_n (pc := 16) C dX5_readSea_16 rfl ?_
    refine p_callVE (pc := 17) C ln_X5_117 dX5_readSea_17 (k_X5_readThePorts (fs := at_) (n := n) (by (repeat refine mg_n (by omega) ?_); first | assumption | exact mup_s _ _ _) rfl (by (repeat refine mg_n (by omega) ?_); first | assumption | exact mup_s _ _ _) (by (repeat refine mg_n (by omega) ?_); first | assumption | exact mup_s _ _ _) (by omega) (by omega)) ⟨by omega, by omega⟩ (by (repeat refine mg_n (by omega) ?_); first | assumption | exact mup_s _ _ _) rfl rfl rfl rfl (Nat.le_of_ble_eq_true rfl) (fun μ' hpost => ?_)
    obtain ⟨x, q, f2, rfl, hx, hq, hf2⟩ := hpost
    refine p_mem (by rw [mup_mup]) ?_
    have hr := cpN_r G at_ n 6 0
    have hn := cpN_n G at_ n 6 0 (by omega)
    refine p_ifne_b (pc := 20) (tgt := 25) C dX5_readSea_20 (by decide) (fun c_20 => ?_) (fun c_20 => ?_)
    · have hf : ffT G at_ n = ffN G at_ n (cpN G at_ n 0 6) (1 + cpN G at_ n 0 6) 0 5 := by unfold ffT; rw [if_neg (by omega), if_neg (by omega)]
      refine p_mem (mup_id (a := 53) (mg_n (by omega) (mg_n (by omega) h53))).symm ?_
      refine L 5 0 x q f2 z3 (by omega) (by omega) (by rw [hf, hq, show 1 + cpN G at_ n 0 6 + 9 * 0 = 1 + cpN G at_ n 0 6 by omega]) (fun i i0 i1 => by omega) ⟨hq, hf2⟩
    · refine p_iconst (pc := 23) C dX5_readSea_23 (by decide) ?_
      refine p_zret (pc := 24) C dX5_readSea_24 (by first | exact Or.inl rfl | exact Or.inr rfl | (split <;> simp)) ?_
      first
        | (have hf : ffT G fs n = 0 := if_pos (by subst hat; omega)
           refine ⟨sv (by rw [if_neg (by omega)]), sgA G at_ e 121, _, _, z2, z3, by rw [mup_id (a := 52) (mg_n (by omega) h52), mup_id (a := 53) (mg_n (by omega) h53)], fun z => ?_, fun z => absurd z (by omega)⟩
           rw [show sgA G at_ e 121 = at_ from if_neg c_12]; omega)
        | (have hf : ffT G at_ n = 1 + cpN G at_ n 0 6 := by unfold ffT; rw [if_neg (by omega), if_pos (by omega)]
           exact ⟨sv (by rw [if_neg (by omega)]), x, q, 0, f2, z3, by rw [mup_id (a := 53) (mg_n (by omega) (mg_n (by omega) h53))], fun z => by omega, fun z => absurd z (by omega)⟩)

def TQ (μ : Int → ME) (g : Int → Int) (k : Int) (ν : Int → ME) : Prop := (∃ a b c e f : Int → Int, ν 47 = mA 5 a ∧ ν 48 = mA 5 b ∧ ν 49 = mA 5 c ∧ ν 50 = mA 5 e ∧ ν 51 = mA 20 f ∧ ∀ i, 0 ≤ i → i < k → (a i = g (8 * i) ∧ b i = g (8 * i + 1) ∧ c i = g (8 * i + 2) ∧ e i = g (8 * i + 3)) ∧ ∀ j, 0 ≤ j → j < 4 → f (4 * i + j) = g (8 * i + 4 + j)) ∧ (∀ x, x ≠ 47 → x ≠ 48 → x ≠ 49 → x ≠ 50 → x ≠ 51 → ν x = μ x)

set_option maxHeartbeats 300000 in
set_option maxRecDepth 100000 in
theorem k_X5_takeSea {K : KX} {d : Nat} {μ : Int → ME} {fl tr np ns day at_ rP rS lp lw lf sL sF nr : Int} (h0 : μ 42 = oM fl tr np ns day at_ rP rS lp lw lf sL sF nr) (hp : 0 ≤ rP ∧ rP ≤ 6) (hs : 0 ≤ rS ∧ rS ≤ 5) {a6 a7 a8 a9 b0 b1 g2 g3 : Int → Int} (h46 : μ 46 = mA 6 a6) (h47 : μ 47 = mA 5 a7) (h48 : μ 48 = mA 5 a8) (h49 : μ 49 = mA 5 a9) (h50 : μ 50 = mA 5 b0) (h51 : μ 51 = mA 20 b1) (h52 : μ 52 = mA 6 g2) (h53 : μ 53 = mA 40 g3) : Ct K (d) yX5_takeSea cX5_takeSea 3 none [vR 42] μ (pV (fun μ' => ∃ a : Int → Int, (∀ j, 0 ≤ j → j < rP → a j = g2 j) ∧ TQ (mup (mup μ 42 (oM (fl) tr (rP) (rS) (0) (at_) (rP) (rS) lp lw lf sL sF (0))) 46 (mA 6 a)) g3 rS μ')) := by
  refine Ct.of (by decide) (Nat.le_of_ble_eq_true rfl) (fun X C => ?_)
  have L2 : ∀ (t : Nat) (k : Int) (ν : Int → ME) (a : Int → Int), (0 ≤ k ∧ k + (t : Int) = rS) → (∀ j, 0 ≤ j → j < rP → a j = g2 j) → TQ (mup (mup μ 42 (oM (fl) tr (rP) (rS) (day) (at_) (rP) (rS) lp lw lf sL sF (nr))) 46 (mA 6 a)) g3 k ν → PW K X 3 (QM K X (pV (fun μ' => ∃ a : Int → Int, (∀ j, 0 ≤ j → j < rP → a j = g2 j) ∧ TQ (mup (mup μ 42 (oM (fl) tr (rP) (rS) (0) (at_) (rP) (rS) lp lw lf sL sF (0))) 46 (mA 6 a)) g3 rS μ'))) 46 [(1, vI k), (0, vR 42)] [] ν := by
    intro t
    induction t with
    | zero =>
      intro k ν a u1 u2 u3
      obtain ⟨⟨q7, q8, q9, r0, r1, v7, v8, v9, w0, w1, hu⟩, vo⟩ := id u3
      have v42 : ν 42 = oM (fl) tr (rP) (rS) (day) (at_) (rP) (rS) lp lw lf sL sF (nr) := (vo 42 (by omega) (by omega) (by omega) (by omega) (by omega)).trans (mg_n (by omega) (mup_s _ _ _))
      have v53 : ν 53 = mA 40 g3 := (vo 53 (by omega) (by omega) (by omega) (by omega) (by omega)).trans (mg_n (by omega) (mg_n (by omega) h53))
      refine p_iload_n (pc := 46) C dX5_takeSea_46 rfl ?_
      refine p_aload_n (pc := 47) C dX5_takeSea_47 rfl ?_
      refine p_get (pc := 48) C fl_X5_71 dX5_takeSea_48 ⟨by omega, by omega⟩ (by (repeat refine mg_n (by omega) ?_); first | assumption | exact mup_s _ _ _) (by rfl) ?_
      refine p_icmp_ge (pc := 51) (tgt := 162) C dX5_takeSea_51 (by decide) (fun c_51 => ?_) (fun h => by exfalso; omega)
      refine p_aload_n (pc := 162) C dX5_takeSea_162 rfl ?_
      refine p_iconst (pc := 163) C dX5_takeSea_163 (by decide) ?_
      refine p_putL (pc := 164) (fs' := [_, _, _, _, _, _, _, _, _, _, _, _, _, _, _, _, _, _, _, _, _, _, _, _, _, _, _, _, _, _, _]) C fp_X5_107 dX5_takeSea_164 ⟨by omega, by omega⟩ (by (repeat refine mg_n (by omega) ?_); first | assumption | exact mup_s _ _ _) (by exact Nat.le_of_ble_eq_true rfl) (by rfl) ?_
      try refine p_mem (mup_mup _ _ _ _) ?_
      refine p_aload_n (pc := 167) C dX5_takeSea_167 rfl ?_
      refine p_iconst (pc := 168) C dX5_takeSea_168 (by decide) ?_
      refine p_putL (pc := 169) (fs' := [_, _, _, _, _, _, _, _, _, _, _, _, _, _, _, _, _, _, _, _, _, _, _, _, _, _, _, _, _, _, _]) C fp_X5_110 dX5_takeSea_169 ⟨by omega, by omega⟩ (by (repeat refine mg_n (by omega) ?_); first | assumption | exact mup_s _ _ _) (by exact Nat.le_of_ble_eq_true rfl) (by rfl) ?_
      try refine p_mem (mup_mup _ _ _ _) ?_
      refine p_vret (pc := 172) C dX5_takeSea_172 ?_
      obtain rfl : k = rS := by omega
      refine ⟨rfl, a, u2, ⟨⟨q7, q8, q9, r0, r1, mg_n (by omega) v7, mg_n (by omega) v8, mg_n (by omega) v9, mg_n (by omega) w0, mg_n (by omega) w1, hu⟩, fun x x1 x2 x3 x4 x5 => ?_⟩⟩
      by_cases e1 : x = 42
      · subst e1; rw [mup_s]; exact (mg_n (by omega) (mup_s _ _ _)).symm
      · rw [mup_n _ _ _ e1, vo x x1 x2 x3 x4 x5]
        by_cases e2 : x = 46
        · subst e2; rw [mup_s, mup_s]
        · rw [mup_n _ _ _ e2, mup_n _ _ _ e2, mup_n _ _ _ e1, mup_n _ _ _ e1]
    | succ t ih =>
      intro k ν a u1 u2 u3
      obtain ⟨⟨q7, q8, q9, r0, r1, v7, v8, v9, w0, w1, hu⟩, vo⟩ := id u3
      have v42 : ν 42 = oM (fl) tr (rP) (rS) (day) (at_) (rP) (rS) lp lw lf sL sF (nr) := (vo 42 (by omega) (by omega) (by omega) (by omega) (by omega)).trans (mg_n (by omega) (mup_s _ _ _))
      have v53 : ν 53 = mA 40 g3 := (vo 53 (by omega) (by omega) (by omega) (by omega) (by omega)).trans (mg_n (by omega) (mg_n (by omega) h53))
      refine p_iload_n (pc := 46) C dX5_takeSea_46 rfl ?_
      refine p_aload_n (pc := 47) C dX5_takeSea_47 rfl ?_
      refine p_get (pc := 48) C fl_X5_71 dX5_takeSea_48 ⟨by omega, by omega⟩ (by (repeat refine mg_n (by omega) ?_); first | assumption | exact mup_s _ _ _) (by rfl) ?_
      refine p_icmp_ge (pc := 51) (tgt := 162) C dX5_takeSea_51 (by decide) (fun h => by exfalso; omega) (fun c_51 => ?_)
      refine p_aload_n (pc := 54) C dX5_takeSea_54 rfl ?_
      refine p_get (pc := 55) C fl_X5_22 dX5_takeSea_55 ⟨by omega, by omega⟩ (by (repeat refine mg_n (by omega) ?_); first | assumption | exact mup_s _ _ _) (by rfl) ?_
      refine p_iload_n (pc := 58) C dX5_takeSea_58 rfl ?_
      refine p_aload_n (pc := 59) C dX5_takeSea_59 rfl ?_
      refine p_get (pc := 60) C fl_X5_40 dX5_takeSea_60 ⟨by omega, by omega⟩ (by (repeat refine mg_n (by omega) ?_); first | assumption | exact mup_s _ _ _) (by rfl) ?_
      refine p_bipush (pc := 63) C dX5_takeSea_63 (by decide) ?_
      refine p_iload_n (pc := 65) C dX5_takeSea_65 rfl ?_
      refine p_imul (pc := 66) C dX5_takeSea_66 ⟨by omega, by omega⟩ ?_
      refine p_iald (pc := 67) C dX5_takeSea_67 ⟨by omega, by omega⟩ (by (repeat refine mg_n (by omega) ?_); first | assumption | exact mup_s _ _ _) (by omega) ?_
      refine p_iast (pc := 68) C dX5_takeSea_68 ⟨by omega, by omega⟩ (by (repeat refine mg_n (by omega) ?_); first | assumption | exact mup_s _ _ _) (by omega) ?_
      try refine p_mem (mup_mup _ _ _ _) ?_
      refine p_aload_n (pc := 69) C dX5_takeSea_69 rfl ?_
      refine p_get (pc := 70) C fl_X5_25 dX5_takeSea_70 ⟨by omega, by omega⟩ (by (repeat refine mg_n (by omega) ?_); first | assumption | exact mup_s _ _ _) (by rfl) ?_
      refine p_iload_n (pc := 73) C dX5_takeSea_73 rfl ?_
      refine p_aload_n (pc := 74) C dX5_takeSea_74 rfl ?_
      refine p_get (pc := 75) C fl_X5_40 dX5_takeSea_75 ⟨by omega, by omega⟩ (by (repeat refine mg_n (by omega) ?_); first | assumption | exact mup_s _ _ _) (by rfl) ?_
      refine p_bipush (pc := 78) C dX5_takeSea_78 (by decide) ?_
      refine p_iload_n (pc := 80) C dX5_takeSea_80 rfl ?_
      refine p_imul (pc := 81) C dX5_takeSea_81 ⟨by omega, by omega⟩ ?_
      refine p_iconst (pc := 82) C dX5_takeSea_82 (by decide) ?_
      refine p_iadd (pc := 83) C dX5_takeSea_83 ⟨by omega, by omega⟩ ?_
      refine p_iald (pc := 84) C dX5_takeSea_84 ⟨by omega, by omega⟩ (by (repeat refine mg_n (by omega) ?_); first | assumption | exact mup_s _ _ _) (by omega) ?_
      refine p_iast (pc := 85) C dX5_takeSea_85 ⟨by omega, by omega⟩ (by (repeat refine mg_n (by omega) ?_); first | assumption | exact mup_s _ _ _) (by omega) ?_
      try refine p_mem (mup_mup _ _ _ _) ?_
      refine p_aload_n (pc := 86) C dX5_takeSea_86 rfl ?_
      refine p_get (pc := 87) C fl_X5_28 dX5_takeSea_87 ⟨by omega, by omega⟩ (by (repeat refine mg_n (by omega) ?_); first | assumption | exact mup_s _ _ _) (by rfl) ?_
      refine p_iload_n (pc := 90) C dX5_takeSea_90 rfl ?_
      refine p_aload_n (pc := 91) C dX5_takeSea_91 rfl ?_
      refine p_get (pc := 92) C fl_X5_40 dX5_takeSea_92 ⟨by omega, by omega⟩ (by (repeat refine mg_n (by omega) ?_); first | assumption | exact mup_s _ _ _) (by rfl) ?_
      refine p_bipush (pc := 95) C dX5_takeSea_95 (by decide) ?_
      refine p_iload_n (pc := 97) C dX5_takeSea_97 rfl ?_
      refine p_imul (pc := 98) C dX5_takeSea_98 ⟨by omega, by omega⟩ ?_
      refine p_iconst (pc := 99) C dX5_takeSea_99 (by decide) ?_
      refine p_iadd (pc := 100) C dX5_takeSea_100 ⟨by omega, by omega⟩ ?_
      refine p_iald (pc := 101) C dX5_takeSea_101 ⟨by omega, by omega⟩ (by (repeat refine mg_n (by omega) ?_); first | assumption | exact mup_s _ _ _) (by omega) ?_
      refine p_iast (pc := 102) C dX5_takeSea_102 ⟨by omega, by omega⟩ (by (repeat refine mg_n (by omega) ?_); first | assumption | exact mup_s _ _ _) (by omega) ?_
      try refine p_mem (mup_mup _ _ _ _) ?_
      refine p_aload_n (pc := 103) C dX5_takeSea_103 rfl ?_
      refine p_get (pc := 104) C fl_X5_31 dX5_takeSea_104 ⟨by omega, by omega⟩ (by (repeat refine mg_n (by omega) ?_); first | assumption | exact mup_s _ _ _) (by rfl) ?_
      refine p_iload_n (pc := 107) C dX5_takeSea_107 rfl ?_
      refine p_aload_n (pc := 108) C dX5_takeSea_108 rfl ?_
      refine p_get (pc := 109) C fl_X5_40 dX5_takeSea_109 ⟨by omega, by omega⟩ (by (repeat refine mg_n (by omega) ?_); first | assumption | exact mup_s _ _ _) (by rfl) ?_
      refine p_bipush (pc := 112) C dX5_takeSea_112 (by decide) ?_
      refine p_iload_n (pc := 114) C dX5_takeSea_114 rfl ?_
      refine p_imul (pc := 115) C dX5_takeSea_115 ⟨by omega, by omega⟩ ?_
      refine p_iconst (pc := 116) C dX5_takeSea_116 (by decide) ?_
      refine p_iadd (pc := 117) C dX5_takeSea_117 ⟨by omega, by omega⟩ ?_
      refine p_iald (pc := 118) C dX5_takeSea_118 ⟨by omega, by omega⟩ (by (repeat refine mg_n (by omega) ?_); first | assumption | exact mup_s _ _ _) (by omega) ?_
      refine p_iast (pc := 119) C dX5_takeSea_119 ⟨by omega, by omega⟩ (by (repeat refine mg_n (by omega) ?_); first | assumption | exact mup_s _ _ _) (by omega) ?_
      try refine p_mem (mup_mup _ _ _ _) ?_
      refine p_iconst (pc := 120) C dX5_takeSea_120 (by decide) ?_
      refine p_istore_n (pc := 121) (ls' := [(2, _), (1, _), (0, _)]) C dX5_takeSea_121 (by decide) rfl ?_
      refine p_iload_n (pc := 122) C dX5_takeSea_122 rfl ?_
      refine p_iconst (pc := 123) C dX5_takeSea_123 (by decide) ?_
      refine p_icmp_ge (pc := 124) (tgt := 156) C dX5_takeSea_124 (by decide) (fun h => absurd h (by decide)) (fun c_124 => ?_)
      refine p_aload_n (pc := 127) C dX5_takeSea_127 rfl ?_
      refine p_get (pc := 128) C fl_X5_34 dX5_takeSea_128 ⟨by omega, by omega⟩ (by (repeat refine mg_n (by omega) ?_); first | assumption | exact mup_s _ _ _) (by rfl) ?_
      refine p_iconst (pc := 131) C dX5_takeSea_131 (by decide) ?_
      refine p_iload_n (pc := 132) C dX5_takeSea_132 rfl ?_
      refine p_imul (pc := 133) C dX5_takeSea_133 ⟨by omega, by omega⟩ ?_
      refine p_iload_n (pc := 134) C dX5_takeSea_134 rfl ?_
      refine p_iadd (pc := 135) C dX5_takeSea_135 ⟨by omega, by omega⟩ ?_
      refine p_aload_n (pc := 136) C dX5_takeSea_136 rfl ?_
      refine p_get (pc := 137) C fl_X5_40 dX5_takeSea_137 ⟨by omega, by omega⟩ (by (repeat refine mg_n (by omega) ?_); first | assumption | exact mup_s _ _ _) (by rfl) ?_
      refine p_bipush (pc := 140) C dX5_takeSea_140 (by decide) ?_
      refine p_iload_n (pc := 142) C dX5_takeSea_142 rfl ?_
      refine p_imul (pc := 143) C dX5_takeSea_143 ⟨by omega, by omega⟩ ?_
      refine p_iconst (pc := 144) C dX5_takeSea_144 (by decide) ?_
      refine p_iadd (pc := 145) C dX5_takeSea_145 ⟨by omega, by omega⟩ ?_
      refine p_iload_n (pc := 146) C dX5_takeSea_146 rfl ?_
      refine p_iadd (pc := 147) C dX5_takeSea_147 ⟨by omega, by omega⟩ ?_
      refine p_iald (pc := 148) C dX5_takeSea_148 ⟨by omega, by omega⟩ (by (repeat refine mg_n (by omega) ?_); first | assumption | exact mup_s _ _ _) (by omega) ?_
      refine p_iast (pc := 149) C dX5_takeSea_149 ⟨by omega, by omega⟩ (by (repeat refine mg_n (by omega) ?_); first | assumption | exact mup_s _ _ _) (by omega) ?_
      try refine p_mem (mup_mup _ _ _ _) ?_
      refine p_iincC (pc := 150) (w := 1) (ls' := [(2, _), (1, _), (0, _)]) C dX5_takeSea_150 (by decide) rfl (by decide) (by decide) rfl ?_
      refine p_goto (pc := 153) (tgt := 122) C dX5_takeSea_153 (by decide) ?_
      refine p_iload_n (pc := 122) C dX5_takeSea_122 rfl ?_
      refine p_iconst (pc := 123) C dX5_takeSea_123 (by decide) ?_
      refine p_icmp_ge (pc := 124) (tgt := 156) C dX5_takeSea_124 (by decide) (fun h => absurd h (by decide)) (fun c_124 => ?_)
      refine p_aload_n (pc := 127) C dX5_takeSea_127 rfl ?_
      refine p_get (pc := 128) C fl_X5_34 dX5_takeSea_128 ⟨by omega, by omega⟩ (by (repeat refine mg_n (by omega) ?_); first | assumption | exact mup_s _ _ _) (by rfl) ?_
      refine p_iconst (pc := 131) C dX5_takeSea_131 (by decide) ?_
      refine p_iload_n (pc := 132) C dX5_takeSea_132 rfl ?_
      refine p_imul (pc := 133) C dX5_takeSea_133 ⟨by omega, by omega⟩ ?_
      refine p_iload_n (pc := 134) C dX5_takeSea_134 rfl ?_
      refine p_iadd (pc := 135) C dX5_takeSea_135 ⟨by omega, by omega⟩ ?_
      refine p_aload_n (pc := 136) C dX5_takeSea_136 rfl ?_
      refine p_get (pc := 137) C fl_X5_40 dX5_takeSea_137 ⟨by omega, by omega⟩ (by (repeat refine mg_n (by omega) ?_); first | assumption | exact mup_s _ _ _) (by rfl) ?_
      refine p_bipush (pc := 140) C dX5_takeSea_140 (by decide) ?_
      refine p_iload_n (pc := 142) C dX5_takeSea_142 rfl ?_
      refine p_imul (pc := 143) C dX5_takeSea_143 ⟨by omega, by omega⟩ ?_
      refine p_iconst (pc := 144) C dX5_takeSea_144 (by decide) ?_
      refine p_iadd (pc := 145) C dX5_takeSea_145 ⟨by omega, by omega⟩ ?_
      refine p_iload_n (pc := 146) C dX5_takeSea_146 rfl ?_
      refine p_iadd (pc := 147) C dX5_takeSea_147 ⟨by omega, by omega⟩ ?_
      refine p_iald (pc := 148) C dX5_takeSea_148 ⟨by omega, by omega⟩ (by (repeat refine mg_n (by omega) ?_); first | assumption | exact mup_s _ _ _) (by omega) ?_
      refine p_iast (pc := 149) C dX5_takeSea_149 ⟨by omega, by omega⟩ (by (repeat refine mg_n (by omega) ?_); first | assumption | exact mup_s _ _ _) (by omega) ?_
      try refine p_mem (mup_mup _ _ _ _) ?_
      refine p_iincC (pc := 150) (w := 2) (ls' := [(2, _), (1, _), (0, _)]) C dX5_takeSea_150 (by decide) rfl (by decide) (by decide) rfl ?_
      refine p_goto (pc := 153) (tgt := 122) C dX5_takeSea_153 (by decide) ?_
      refine p_iload_n (pc := 122) C dX5_takeSea_122 rfl ?_
      refine p_iconst (pc := 123) C dX5_takeSea_123 (by decide) ?_
      refine p_icmp_ge (pc := 124) (tgt := 156) C dX5_takeSea_124 (by decide) (fun h => absurd h (by decide)) (fun c_124 => ?_)
      refine p_aload_n (pc := 127) C dX5_takeSea_127 rfl ?_
      refine p_get (pc := 128) C fl_X5_34 dX5_takeSea_128 ⟨by omega, by omega⟩ (by (repeat refine mg_n (by omega) ?_); first | assumption | exact mup_s _ _ _) (by rfl) ?_
      refine p_iconst (pc := 131) C dX5_takeSea_131 (by decide) ?_
      refine p_iload_n (pc := 132) C dX5_takeSea_132 rfl ?_
      refine p_imul (pc := 133) C dX5_takeSea_133 ⟨by omega, by omega⟩ ?_
      refine p_iload_n (pc := 134) C dX5_takeSea_134 rfl ?_
      refine p_iadd (pc := 135) C dX5_takeSea_135 ⟨by omega, by omega⟩ ?_
      refine p_aload_n (pc := 136) C dX5_takeSea_136 rfl ?_
      refine p_get (pc := 137) C fl_X5_40 dX5_takeSea_137 ⟨by omega, by omega⟩ (by (repeat refine mg_n (by omega) ?_); first | assumption | exact mup_s _ _ _) (by rfl) ?_
      refine p_bipush (pc := 140) C dX5_takeSea_140 (by decide) ?_
      refine p_iload_n (pc := 142) C dX5_takeSea_142 rfl ?_
      refine p_imul (pc := 143) C dX5_takeSea_143 ⟨by omega, by omega⟩ ?_
      refine p_iconst (pc := 144) C dX5_takeSea_144 (by decide) ?_
      refine p_iadd (pc := 145) C dX5_takeSea_145 ⟨by omega, by omega⟩ ?_
      refine p_iload_n (pc := 146) C dX5_takeSea_146 rfl ?_
      refine p_iadd (pc := 147) C dX5_takeSea_147 ⟨by omega, by omega⟩ ?_
      refine p_iald (pc := 148) C dX5_takeSea_148 ⟨by omega, by omega⟩ (by (repeat refine mg_n (by omega) ?_); first | assumption | exact mup_s _ _ _) (by omega) ?_
      refine p_iast (pc := 149) C dX5_takeSea_149 ⟨by omega, by omega⟩ (by (repeat refine mg_n (by omega) ?_); first | assumption | exact mup_s _ _ _) (by omega) ?_
      try refine p_mem (mup_mup _ _ _ _) ?_
      refine p_iincC (pc := 150) (w := 3) (ls' := [(2, _), (1, _), (0, _)]) C dX5_takeSea_150 (by decide) rfl (by decide) (by decide) rfl ?_
      refine p_goto (pc := 153) (tgt := 122) C dX5_takeSea_153 (by decide) ?_
      refine p_iload_n (pc := 122) C dX5_takeSea_122 rfl ?_
      refine p_iconst (pc := 123) C dX5_takeSea_123 (by decide) ?_
      refine p_icmp_ge (pc := 124) (tgt := 156) C dX5_takeSea_124 (by decide) (fun h => absurd h (by decide)) (fun c_124 => ?_)
      refine p_aload_n (pc := 127) C dX5_takeSea_127 rfl ?_
      refine p_get (pc := 128) C fl_X5_34 dX5_takeSea_128 ⟨by omega, by omega⟩ (by (repeat refine mg_n (by omega) ?_); first | assumption | exact mup_s _ _ _) (by rfl) ?_
      refine p_iconst (pc := 131) C dX5_takeSea_131 (by decide) ?_
      refine p_iload_n (pc := 132) C dX5_takeSea_132 rfl ?_
      refine p_imul (pc := 133) C dX5_takeSea_133 ⟨by omega, by omega⟩ ?_
      refine p_iload_n (pc := 134) C dX5_takeSea_134 rfl ?_
      refine p_iadd (pc := 135) C dX5_takeSea_135 ⟨by omega, by omega⟩ ?_
      refine p_aload_n (pc := 136) C dX5_takeSea_136 rfl ?_
      refine p_get (pc := 137) C fl_X5_40 dX5_takeSea_137 ⟨by omega, by omega⟩ (by (repeat refine mg_n (by omega) ?_); first | assumption | exact mup_s _ _ _) (by rfl) ?_
      refine p_bipush (pc := 140) C dX5_takeSea_140 (by decide) ?_
      refine p_iload_n (pc := 142) C dX5_takeSea_142 rfl ?_
      refine p_imul (pc := 143) C dX5_takeSea_143 ⟨by omega, by omega⟩ ?_
      refine p_iconst (pc := 144) C dX5_takeSea_144 (by decide) ?_
      refine p_iadd (pc := 145) C dX5_takeSea_145 ⟨by omega, by omega⟩ ?_
      refine p_iload_n (pc := 146) C dX5_takeSea_146 rfl ?_
      refine p_iadd (pc := 147) C dX5_takeSea_147 ⟨by omega, by omega⟩ ?_
      refine p_iald (pc := 148) C dX5_takeSea_148 ⟨by omega, by omega⟩ (by (repeat refine mg_n (by omega) ?_); first | assumption | exact mup_s _ _ _) (by omega) ?_
      refine p_iast (pc := 149) C dX5_takeSea_149 ⟨by omega, by omega⟩ (by (repeat refine mg_n (by omega) ?_); first | assumption | exact mup_s _ _ _) (by omega) ?_
      try refine p_mem (mup_mup _ _ _ _) ?_
      refine p_iincC (pc := 150) (w := 4) (ls' := [(2, _), (1, _), (0, _)]) C dX5_takeSea_150 (by decide) rfl (by decide) (by decide) rfl ?_
      refine p_goto (pc := 153) (tgt := 122) C dX5_takeSea_153 (by decide) ?_
      refine p_iload_n (pc := 122) C dX5_takeSea_122 rfl ?_
      refine p_iconst (pc := 123) C dX5_takeSea_123 (by decide) ?_
      refine p_icmp_ge (pc := 124) (tgt := 156) C dX5_takeSea_124 (by decide) (fun c_124 => ?_) (fun h => absurd h (by decide))
      refine p_iinc (pc := 156) (ls' := [(1, _), (2, _), (0, _)]) C dX5_takeSea_156 (by decide) rfl ⟨by omega, by omega⟩ rfl ?_
      refine p_goto (pc := 159) (tgt := 46) C dX5_takeSea_159 (by decide) ?_
      refine p_pick [0, 2] (ls' := [(1, _), (0, _)]) rfl ?_
      refine ih (k + 1) _ a (by omega) u2 ⟨⟨_, _, _, _, _, mg_n (by omega) (mg_n (by omega) (mg_n (by omega) (mg_n (by omega) (mup_s _ _ _)))), mg_n (by omega) (mg_n (by omega) (mg_n (by omega) (mup_s _ _ _))), mg_n (by omega) (mg_n (by omega) (mup_s _ _ _)), mg_n (by omega) (mup_s _ _ _), mup_s _ _ _, fun i i0 i1 => ?_⟩, fun x x1 x2 x3 x4 x5 => mg_n x5 (mg_n x4 (mg_n x3 (mg_n x2 (mg_n x1 (vo x x1 x2 x3 x4 x5)))))⟩
      by_cases e1 : i = k
      · subst e1
        rw [fup_s, fup_s, fup_s, fup_s]
        refine ⟨⟨rfl, rfl, rfl, rfl⟩, fun j j0 j1 => ?_⟩
        rcases (show j = 0 ∨ j = 1 ∨ j = 2 ∨ j = 3 by omega) with rfl | rfl | rfl | rfl
        · rw [fup_n _ _ _ (by omega), fup_n _ _ _ (by omega), fup_n _ _ _ (by omega), fup_s]
        · rw [fup_n _ _ _ (by omega), fup_n _ _ _ (by omega), fup_s]
        · rw [fup_n _ _ _ (by omega), fup_s]
        · rw [fup_s]
      · rw [fup_n _ _ _ e1, fup_n _ _ _ e1, fup_n _ _ _ e1, fup_n _ _ _ e1]
        refine ⟨(hu i i0 (by omega)).1, fun j j0 j1 => ?_⟩
        rw [fup_n _ _ _ (by omega), fup_n _ _ _ (by omega), fup_n _ _ _ (by omega), fup_n _ _ _ (by omega)]
        exact (hu i i0 (by omega)).2 j j0 j1
  have L : ∀ (t : Nat) (p : Int) (a : Int → Int), (0 ≤ p ∧ p + (t : Int) = rP) → (∀ j, 0 ≤ j → j < p → a j = g2 j) → PW K X 3 (QM K X (pV (fun μ' => ∃ a : Int → Int, (∀ j, 0 ≤ j → j < rP → a j = g2 j) ∧ TQ (mup (mup μ 42 (oM (fl) tr (rP) (rS) (0) (at_) (rP) (rS) lp lw lf sL sF (0))) 46 (mA 6 a)) g3 rS μ'))) 10 [(1, vI p), (0, vR 42)] [] (mup (mup μ 42 (oM (fl) tr (rP) (ns) (day) (at_) (rP) (rS) lp lw lf sL sF (nr))) 46 (mA 6 a)) := by
    intro t
    induction t with
    | zero =>
      intro p a u1 u2
      refine p_iload_n (pc := 10) C dX5_takeSea_10 rfl ?_
      refine p_aload_n (pc := 11) C dX5_takeSea_11 rfl ?_
      refine p_get (pc := 12) C fl_X5_74 dX5_takeSea_12 ⟨by omega, by omega⟩ (by (repeat refine mg_n (by omega) ?_); first | assumption | exact mup_s _ _ _) (by rfl) ?_
      refine p_icmp_ge (pc := 15) (tgt := 36) C dX5_takeSea_15 (by decide) (fun c_15 => ?_) (fun h => by exfalso; omega)
      refine p_aload_n (pc := 36) C dX5_takeSea_36 rfl ?_
      refine p_aload_n (pc := 37) C dX5_takeSea_37 rfl ?_
      refine p_get (pc := 38) C fl_X5_104 dX5_takeSea_38 ⟨by omega, by omega⟩ (by (repeat refine mg_n (by omega) ?_); first | assumption | exact mup_s _ _ _) (by rfl) ?_
      refine p_putL (pc := 41) (fs' := [_, _, _, _, _, _, _, _, _, _, _, _, _, _, _, _, _, _, _, _, _, _, _, _, _, _, _, _, _, _, _]) C fp_X5_71 dX5_takeSea_41 ⟨by omega, by omega⟩ (by (repeat refine mg_n (by omega) ?_); first | assumption | exact mup_s _ _ _) (by exact Nat.le_of_ble_eq_true rfl) (by rfl) ?_
      try refine p_mem (mup_mup _ _ _ _) ?_
      refine p_iconst (pc := 44) C dX5_takeSea_44 (by decide) ?_
      refine p_istore_n (pc := 45) (ls' := [(1, _), (0, _)]) C dX5_takeSea_45 (by decide) rfl ?_
      refine p_mem (mup_x _ (by omega) _ _ _) ?_
      exact L2 rS.toNat 0 _ a (by omega) (fun j j0 j1 => u2 j j0 (by omega)) ⟨⟨a7, a8, a9, b0, b1, mg_n (by omega) (mg_n (by omega) h47), mg_n (by omega) (mg_n (by omega) h48), mg_n (by omega) (mg_n (by omega) h49), mg_n (by omega) (mg_n (by omega) h50), mg_n (by omega) (mg_n (by omega) h51), fun i i0 i1 => by omega⟩, fun x _ _ _ _ _ => rfl⟩
    | succ t ih =>
      intro p a u1 u2
      refine p_iload_n (pc := 10) C dX5_takeSea_10 rfl ?_
      refine p_aload_n (pc := 11) C dX5_takeSea_11 rfl ?_
      refine p_get (pc := 12) C fl_X5_74 dX5_takeSea_12 ⟨by omega, by omega⟩ (by (repeat refine mg_n (by omega) ?_); first | assumption | exact mup_s _ _ _) (by rfl) ?_
      refine p_icmp_ge (pc := 15) (tgt := 36) C dX5_takeSea_15 (by decide) (fun h => by exfalso; omega) (fun c_15 => ?_)
      refine p_aload_n (pc := 18) C dX5_takeSea_18 rfl ?_
      refine p_get (pc := 19) C fl_X5_19 dX5_takeSea_19 ⟨by omega, by omega⟩ (by (repeat refine mg_n (by omega) ?_); first | assumption | exact mup_s _ _ _) (by rfl) ?_
      refine p_iload_n (pc := 22) C dX5_takeSea_22 rfl ?_
      refine p_aload_n (pc := 23) C dX5_takeSea_23 rfl ?_
      refine p_get (pc := 24) C fl_X5_37 dX5_takeSea_24 ⟨by omega, by omega⟩ (by (repeat refine mg_n (by omega) ?_); first | assumption | exact mup_s _ _ _) (by rfl) ?_
      refine p_iload_n (pc := 27) C dX5_takeSea_27 rfl ?_
      refine p_iald (pc := 28) C dX5_takeSea_28 ⟨by omega, by omega⟩ (by (repeat refine mg_n (by omega) ?_); first | assumption | exact mup_s _ _ _) (by omega) ?_
      refine p_iast (pc := 29) C dX5_takeSea_29 ⟨by omega, by omega⟩ (by (repeat refine mg_n (by omega) ?_); first | assumption | exact mup_s _ _ _) (by omega) ?_
      try refine p_mem (mup_mup _ _ _ _) ?_
      refine p_iinc (pc := 30) (ls' := [(1, _), (0, _)]) C dX5_takeSea_30 (by decide) rfl ⟨by omega, by omega⟩ rfl ?_
      refine p_goto (pc := 33) (tgt := 10) C dX5_takeSea_33 (by decide) ?_
      refine ih (p + 1) _ (by omega) (fun j j0 j1 => ?_)
      by_cases e1 : j = p
      · subst e1; rw [fup_s]
      · rw [fup_n _ _ _ e1]; exact u2 j j0 (by omega)
  refine p_aload_n (pc := 0) C dX5_takeSea_0 rfl ?_
  refine p_aload_n (pc := 1) C dX5_takeSea_1 rfl ?_
  refine p_get (pc := 2) C fl_X5_101 dX5_takeSea_2 ⟨by omega, by omega⟩ (by (repeat refine mg_n (by omega) ?_); first | assumption | exact mup_s _ _ _) (by rfl) ?_
  refine p_putL (pc := 5) (fs' := [_, _, _, _, _, _, _, _, _, _, _, _, _, _, _, _, _, _, _, _, _, _, _, _, _, _, _, _, _, _, _]) C fp_X5_74 dX5_takeSea_5 ⟨by omega, by omega⟩ (by (repeat refine mg_n (by omega) ?_); first | assumption | exact mup_s _ _ _) (by exact Nat.le_of_ble_eq_true rfl) (by rfl) ?_
  try refine p_mem (mup_mup _ _ _ _) ?_
  refine p_iconst (pc := 8) C dX5_takeSea_8 (by decide) ?_
  refine p_istore_n (pc := 9) (ls' := [(1, _), (0, _)]) C dX5_takeSea_9 (by decide) rfl ?_
  refine p_mem (mup_id (a := 46) (mg_n (by omega) h46)).symm ?_
  exact L rP.toNat 0 _ (by omega) (fun j j0 j1 => by omega)
