theorem mup_5b (μ : Int → ME) (a b c e : ME) : mup (mup (mup (mup μ 51 a) 50 b) 50 c) 51 e = mup (mup μ 50 c) 51 e := by
  rw [mup_mup, mup_comm μ a c (show (51 : Int) ≠ 50 by omega), mup_mup]

set_option maxHeartbeats 4000000 in
set_option maxRecDepth 100000 in
theorem k_X5_isLossOf {K : KX} {d : Nat} {μ : Int → ME} {k n fr : Int} {pt : Int → Int} {ca : Int → Int → Int} {fl tr np ns day at_ rP rS lp lw lf sL sF nr : Int} (h0 : μ 42 = oM fl tr np ns day at_ rP rS lp lw lf sL sF nr) (hnp : np ≤ 6) (hns : 0 ≤ ns ∧ ns ≤ 5) {rg kd nm sg : Int → Int} (hB : MB rg kd nm sg np ns μ) (hk : 0 ≤ k ∧ k < ns) {F p1 c1 p4 c4 : Int → Int} (h45 : μ 45 = mA 240 F) (h50 : μ 50 = mA 5 p1) (h51 : μ 51 = mA 20 c1) (h54 : μ 54 = mA 5 p4) (h55 : μ 55 = mA 20 c4) (hR : MR ns (pt, ca, 0, 0, -9) p1 c1) (hK : MR ns (pt, ca, 0, 0, -9) p4 c4) (hW : WS np ns (pt, ca, 0, 0, -9)) (hN : WN ns kd nm sg) (hn : 0 ≤ n ∧ n ≤ 30) (hf : 0 ≤ fr ∧ fr + 4 ≤ 240) : Ct K (d + 4) yX5_isLossOf cX5_isLossOf 6 (some .boolean) [vR 42, vI k, vI n, vI fr] μ (pE (vI (@ite Int (nmP F fr (los (ca k) (nm k) (rdN rg np (brg (kd k) (sg k)) (pt k) n.toNat))) (Classical.propDecidable _) 1 0)) (fun μ' => ∃ x y : Int → Int, μ' = mup (mup μ 50 (mA 5 x)) 51 (mA 20 y) ∧ MR ns (pt, ca, 0, 0, -9) x y)) := by
  refine Ct.of (by decide) (Nat.le_of_ble_eq_true rfl) (fun X C => ?_)
  refine p_aload_n (pc := 0) C dX5_isLossOf_0 rfl ?_
  refine p_iload_n (pc := 1) C dX5_isLossOf_1 rfl ?_
  refine p_iload_n (pc := 2) C dX5_isLossOf_2 rfl ?_
  refine p_callVI (pc := 3) C ln_X5_193 dX5_isLossOf_3 (k_X5_losesIn (S := (pt, ca, 0, 0, -9)) h0 hnp hns hB hk h51 h50 hR hW hN (by omega) (by show (0 : Int) ≤ 0 ∧ (0 : Int) ≤ 1000; omega)) ⟨by omega, by omega⟩ (by (repeat refine mg_n (by omega) ?_); first | assumption | exact mup_s _ _ _) rfl rfl rfl rfl (Nat.le_of_ble_eq_true rfl) (fun z μ' hpost => ?_)
  obtain ⟨hz, p2, c2, rfl, hmr⟩ := hpost
  have hcl := (it_cl (np := np) (rg := rg) hN hk.1 hk.2 n.toNat (pt, ca, 0, 0, -9) hW).1
  have hl : ∀ g, 0 ≤ g → g < 4 → c4 (4 * k + g) - c2 (4 * k + g) = los (ca k) (nm k) (rdN rg np (brg (kd k) (sg k)) (pt k) n.toNat) g := fun g g0 g1 => by
    have a := (hK k hk.1 hk.2).2 g g0 g1
    have b := (hmr k hk.1 hk.2).2 g g0 g1
    have c := hcl g g0 g1
    dsimp only at a c
    omega
  have hl0 := hl 0 (by omega) (by omega)
  have hl1 := hl 1 (by omega) (by omega)
  have hl2 := hl 2 (by omega) (by omega)
  have hl3 := hl 3 (by omega) (by omega)
  have hlr := fun g g0 g1 => los_r (r := (rdN rg np (brg (kd k) (sg k)) (pt k) n.toNat)) (hW k hk.1 hk.2).2 (hN k hk.1 hk.2).2.1 (j := g) g0 g1
  have hr0 := hlr 0 (by omega) (by omega)
  have hr1 := hlr 1 (by omega) (by omega)
  have hr2 := hlr 2 (by omega) (by omega)
  have hr3 := hlr 3 (by omega) (by omega)
  obtain ⟨⟨b0, b1⟩, ⟨b2, b3⟩, ⟨b4, b5⟩, ⟨b6, b7⟩⟩ := (hW k hk.1 hk.2).2
  dsimp only at b0 b1 b2 b3 b4 b5 b6 b7 hr0 hr1 hr2 hr3
  refine p_pop (pc := 6) C dX5_isLossOf_6 rfl ?_
  refine p_iconst (pc := 7) C dX5_isLossOf_7 (by decide) ?_
  refine p_istore (pc := 8) (ls' := [(4, _), (0, _), (1, _), (2, _), (3, _)]) C dX5_isLossOf_8 (by decide) rfl ?_
  refine p_iconst (pc := 10) C dX5_isLossOf_10 (by decide) ?_
  refine p_istore (pc := 11) (ls' := [(5, _), (4, _), (0, _), (1, _), (2, _), (3, _)]) C dX5_isLossOf_11 (by decide) rfl ?_
  refine p_iload (pc := 13) C dX5_isLossOf_13 rfl ?_
  refine p_iconst (pc := 15) C dX5_isLossOf_15 (by decide) ?_
  refine p_icmp_ge (pc := 16) (tgt := 72) C dX5_isLossOf_16 (by decide) (fun h => absurd h (by decide)) (fun c_16 => ?_)
  refine p_iload (pc := 19) C dX5_isLossOf_19 rfl ?_
  refine p_if_eq (pc := 21) (tgt := 63) C dX5_isLossOf_21 (by decide) (fun h => absurd h (by decide)) (fun c_21 => ?_)
  refine p_aload_n (pc := 24) C dX5_isLossOf_24 rfl ?_
  refine p_get (pc := 25) C fl_X5_46 dX5_isLossOf_25 ⟨by omega, by omega⟩ (by (repeat refine mg_n (by omega) ?_); first | assumption | exact mup_s _ _ _) (by rfl) ?_
  refine p_iconst (pc := 28) C dX5_isLossOf_28 (by decide) ?_
  refine p_iload_n (pc := 29) C dX5_isLossOf_29 rfl ?_
  refine p_imul (pc := 30) C dX5_isLossOf_30 ⟨by omega, by omega⟩ ?_
  refine p_iload (pc := 31) C dX5_isLossOf_31 rfl ?_
  refine p_iadd (pc := 33) C dX5_isLossOf_33 ⟨by omega, by omega⟩ ?_
  refine p_iald (pc := 34) C dX5_isLossOf_34 ⟨by omega, by omega⟩ (by (repeat refine mg_n (by omega) ?_); first | assumption | exact mup_s _ _ _) (by omega) ?_
  refine p_aload_n (pc := 35) C dX5_isLossOf_35 rfl ?_
  refine p_get (pc := 36) C fl_X5_34 dX5_isLossOf_36 ⟨by omega, by omega⟩ (by (repeat refine mg_n (by omega) ?_); first | assumption | exact mup_s _ _ _) (by rfl) ?_
  refine p_iconst (pc := 39) C dX5_isLossOf_39 (by decide) ?_
  refine p_iload_n (pc := 40) C dX5_isLossOf_40 rfl ?_
  refine p_imul (pc := 41) C dX5_isLossOf_41 ⟨by omega, by omega⟩ ?_
  refine p_iload (pc := 42) C dX5_isLossOf_42 rfl ?_
  refine p_iadd (pc := 44) C dX5_isLossOf_44 ⟨by omega, by omega⟩ ?_
  refine p_iald (pc := 45) C dX5_isLossOf_45 ⟨by omega, by omega⟩ (by (repeat refine mg_n (by omega) ?_); first | assumption | exact mup_s _ _ _) (by omega) ?_
  refine p_isub (pc := 46) C dX5_isLossOf_46 ⟨by omega, by omega⟩ ?_
  refine p_aload_n (pc := 47) C dX5_isLossOf_47 rfl ?_
  refine p_get (pc := 48) C fl_X5_16 dX5_isLossOf_48 ⟨by omega, by omega⟩ (by (repeat refine mg_n (by omega) ?_); first | assumption | exact mup_s _ _ _) (by rfl) ?_
  refine p_iload_n (pc := 51) C dX5_isLossOf_51 rfl ?_
  refine p_iload (pc := 52) C dX5_isLossOf_52 rfl ?_
  refine p_iadd (pc := 54) C dX5_isLossOf_54 ⟨by omega, by omega⟩ ?_
  refine p_iald (pc := 55) C dX5_isLossOf_55 ⟨by omega, by omega⟩ (by (repeat refine mg_n (by omega) ?_); first | assumption | exact mup_s _ _ _) (by omega) ?_
  refine p_icmp_ne (pc := 56) (tgt := 63) C dX5_isLossOf_56 (by decide) (fun c_56 => ?_) (fun c_56 => ?_)
  · refine p_iconst (pc := 63) C dX5_isLossOf_63 (by decide) ?_
    refine p_istore (pc := 64) (ls' := [(4, _), (5, _), (0, _), (1, _), (2, _), (3, _)]) C dX5_isLossOf_64 (by decide) rfl ?_
    refine p_iincC (pc := 66) (w := 1) (ls' := [(5, _), (4, _), (0, _), (1, _), (2, _), (3, _)]) C dX5_isLossOf_66 (by decide) rfl (by decide) (by decide) rfl ?_
    refine p_goto (pc := 69) (tgt := 13) C dX5_isLossOf_69 (by decide) ?_
    refine p_iload (pc := 13) C dX5_isLossOf_13 rfl ?_
    refine p_iconst (pc := 15) C dX5_isLossOf_15 (by decide) ?_
    refine p_icmp_ge (pc := 16) (tgt := 72) C dX5_isLossOf_16 (by decide) (fun h => absurd h (by decide)) (fun c_16 => ?_)
    refine p_iload (pc := 19) C dX5_isLossOf_19 rfl ?_
    refine p_if_eq (pc := 21) (tgt := 63) C dX5_isLossOf_21 (by decide) (fun c_21 => ?_) (fun h => absurd h (by decide))
    refine p_iconst (pc := 63) C dX5_isLossOf_63 (by decide) ?_
    refine p_istore (pc := 64) (ls' := [(4, _), (5, _), (0, _), (1, _), (2, _), (3, _)]) C dX5_isLossOf_64 (by decide) rfl ?_
    refine p_iincC (pc := 66) (w := 2) (ls' := [(5, _), (4, _), (0, _), (1, _), (2, _), (3, _)]) C dX5_isLossOf_66 (by decide) rfl (by decide) (by decide) rfl ?_
    refine p_goto (pc := 69) (tgt := 13) C dX5_isLossOf_69 (by decide) ?_
    refine p_iload (pc := 13) C dX5_isLossOf_13 rfl ?_
    refine p_iconst (pc := 15) C dX5_isLossOf_15 (by decide) ?_
    refine p_icmp_ge (pc := 16) (tgt := 72) C dX5_isLossOf_16 (by decide) (fun h => absurd h (by decide)) (fun c_16 => ?_)
    refine p_iload (pc := 19) C dX5_isLossOf_19 rfl ?_
    refine p_if_eq (pc := 21) (tgt := 63) C dX5_isLossOf_21 (by decide) (fun c_21 => ?_) (fun h => absurd h (by decide))
    refine p_iconst (pc := 63) C dX5_isLossOf_63 (by decide) ?_
    refine p_istore (pc := 64) (ls' := [(4, _), (5, _), (0, _), (1, _), (2, _), (3, _)]) C dX5_isLossOf_64 (by decide) rfl ?_
    refine p_iincC (pc := 66) (w := 3) (ls' := [(5, _), (4, _), (0, _), (1, _), (2, _), (3, _)]) C dX5_isLossOf_66 (by decide) rfl (by decide) (by decide) rfl ?_
    refine p_goto (pc := 69) (tgt := 13) C dX5_isLossOf_69 (by decide) ?_
    refine p_iload (pc := 13) C dX5_isLossOf_13 rfl ?_
    refine p_iconst (pc := 15) C dX5_isLossOf_15 (by decide) ?_
    refine p_icmp_ge (pc := 16) (tgt := 72) C dX5_isLossOf_16 (by decide) (fun h => absurd h (by decide)) (fun c_16 => ?_)
    refine p_iload (pc := 19) C dX5_isLossOf_19 rfl ?_
    refine p_if_eq (pc := 21) (tgt := 63) C dX5_isLossOf_21 (by decide) (fun c_21 => ?_) (fun h => absurd h (by decide))
    refine p_iconst (pc := 63) C dX5_isLossOf_63 (by decide) ?_
    refine p_istore (pc := 64) (ls' := [(4, _), (5, _), (0, _), (1, _), (2, _), (3, _)]) C dX5_isLossOf_64 (by decide) rfl ?_
    refine p_iincC (pc := 66) (w := 4) (ls' := [(5, _), (4, _), (0, _), (1, _), (2, _), (3, _)]) C dX5_isLossOf_66 (by decide) rfl (by decide) (by decide) rfl ?_
    refine p_goto (pc := 69) (tgt := 13) C dX5_isLossOf_69 (by decide) ?_
    refine p_iload (pc := 13) C dX5_isLossOf_13 rfl ?_
    refine p_iconst (pc := 15) C dX5_isLossOf_15 (by decide) ?_
    refine p_icmp_ge (pc := 16) (tgt := 72) C dX5_isLossOf_16 (by decide) (fun c_16 => ?_) (fun h => absurd h (by decide))
    refine p_aload_n (pc := 72) C dX5_isLossOf_72 rfl ?_
    refine p_callVV (pc := 73) C ln_X5_186 dX5_isLossOf_73 (k_X5_putBack (by (repeat refine mg_n (by omega) ?_); first | assumption | exact mup_s _ _ _) (by omega) (by (repeat refine mg_n (by omega) ?_); first | assumption | exact mup_s _ _ _) (by (repeat refine mg_n (by omega) ?_); first | assumption | exact mup_s _ _ _) (by (repeat refine mg_n (by omega) ?_); first | assumption | exact mup_s _ _ _) (by (repeat refine mg_n (by omega) ?_); first | assumption | exact mup_s _ _ _)) ⟨by omega, by omega⟩ (by (repeat refine mg_n (by omega) ?_); first | assumption | exact mup_s _ _ _) rfl rfl rfl rfl (Nat.le_of_ble_eq_true rfl) (fun μ' hpost => ?_)
    obtain ⟨x, y, rfl, hx, hy⟩ := hpost
    refine p_iload (pc := 76) C dX5_isLossOf_76 rfl ?_
    refine p_zret (pc := 78) C dX5_isLossOf_78 (by first | exact Or.inl rfl | exact Or.inr rfl | (split <;> simp)) ?_
    first
      | exact ⟨by rw [@if_pos _ (Classical.propDecidable _) (show nmP F fr (los (ca k) (nm k) (rdN rg np (brg (kd k) (sg k)) (pt k) n.toNat)) from ⟨by omega, by omega, by omega, by omega⟩)], x, y, mup_5b _ _ _ _ _, MR_kp hK hx hy⟩
      | exact ⟨by rw [@if_neg _ (Classical.propDecidable _) (show ¬ nmP F fr (los (ca k) (nm k) (rdN rg np (brg (kd k) (sg k)) (pt k) n.toNat)) from fun z => by obtain ⟨z0, z1, z2, z3⟩ := z; omega)], x, y, mup_5b _ _ _ _ _, MR_kp hK hx hy⟩
  · refine p_iconst (pc := 59) C dX5_isLossOf_59 (by decide) ?_
    refine p_goto (pc := 60) (tgt := 64) C dX5_isLossOf_60 (by decide) ?_
    refine p_istore (pc := 64) (ls' := [(4, _), (5, _), (0, _), (1, _), (2, _), (3, _)]) C dX5_isLossOf_64 (by decide) rfl ?_
    refine p_iincC (pc := 66) (w := 1) (ls' := [(5, _), (4, _), (0, _), (1, _), (2, _), (3, _)]) C dX5_isLossOf_66 (by decide) rfl (by decide) (by decide) rfl ?_
    refine p_goto (pc := 69) (tgt := 13) C dX5_isLossOf_69 (by decide) ?_
    refine p_iload (pc := 13) C dX5_isLossOf_13 rfl ?_
    refine p_iconst (pc := 15) C dX5_isLossOf_15 (by decide) ?_
    refine p_icmp_ge (pc := 16) (tgt := 72) C dX5_isLossOf_16 (by decide) (fun h => absurd h (by decide)) (fun c_16 => ?_)
    refine p_iload (pc := 19) C dX5_isLossOf_19 rfl ?_
    refine p_if_eq (pc := 21) (tgt := 63) C dX5_isLossOf_21 (by decide) (fun h => absurd h (by decide)) (fun c_21 => ?_)
    refine p_aload_n (pc := 24) C dX5_isLossOf_24 rfl ?_
    refine p_get (pc := 25) C fl_X5_46 dX5_isLossOf_25 ⟨by omega, by omega⟩ (by (repeat refine mg_n (by omega) ?_); first | assumption | exact mup_s _ _ _) (by rfl) ?_
    refine p_iconst (pc := 28) C dX5_isLossOf_28 (by decide) ?_
    refine p_iload_n (pc := 29) C dX5_isLossOf_29 rfl ?_
    refine p_imul (pc := 30) C dX5_isLossOf_30 ⟨by omega, by omega⟩ ?_
    refine p_iload (pc := 31) C dX5_isLossOf_31 rfl ?_
    refine p_iadd (pc := 33) C dX5_isLossOf_33 ⟨by omega, by omega⟩ ?_
    refine p_iald (pc := 34) C dX5_isLossOf_34 ⟨by omega, by omega⟩ (by (repeat refine mg_n (by omega) ?_); first | assumption | exact mup_s _ _ _) (by omega) ?_
    refine p_aload_n (pc := 35) C dX5_isLossOf_35 rfl ?_
    refine p_get (pc := 36) C fl_X5_34 dX5_isLossOf_36 ⟨by omega, by omega⟩ (by (repeat refine mg_n (by omega) ?_); first | assumption | exact mup_s _ _ _) (by rfl) ?_
    refine p_iconst (pc := 39) C dX5_isLossOf_39 (by decide) ?_
    refine p_iload_n (pc := 40) C dX5_isLossOf_40 rfl ?_
    refine p_imul (pc := 41) C dX5_isLossOf_41 ⟨by omega, by omega⟩ ?_
    refine p_iload (pc := 42) C dX5_isLossOf_42 rfl ?_
    refine p_iadd (pc := 44) C dX5_isLossOf_44 ⟨by omega, by omega⟩ ?_
    refine p_iald (pc := 45) C dX5_isLossOf_45 ⟨by omega, by omega⟩ (by (repeat refine mg_n (by omega) ?_); first | assumption | exact mup_s _ _ _) (by omega) ?_
    refine p_isub (pc := 46) C dX5_isLossOf_46 ⟨by omega, by omega⟩ ?_
    refine p_aload_n (pc := 47) C dX5_isLossOf_47 rfl ?_
    refine p_get (pc := 48) C fl_X5_16 dX5_isLossOf_48 ⟨by omega, by omega⟩ (by (repeat refine mg_n (by omega) ?_); first | assumption | exact mup_s _ _ _) (by rfl) ?_
    refine p_iload_n (pc := 51) C dX5_isLossOf_51 rfl ?_
    refine p_iload (pc := 52) C dX5_isLossOf_52 rfl ?_
    refine p_iadd (pc := 54) C dX5_isLossOf_54 ⟨by omega, by omega⟩ ?_
    refine p_iald (pc := 55) C dX5_isLossOf_55 ⟨by omega, by omega⟩ (by (repeat refine mg_n (by omega) ?_); first | assumption | exact mup_s _ _ _) (by omega) ?_
    refine p_icmp_ne (pc := 56) (tgt := 63) C dX5_isLossOf_56 (by decide) (fun c_56 => ?_) (fun c_56 => ?_)
    · refine p_iconst (pc := 63) C dX5_isLossOf_63 (by decide) ?_
      refine p_istore (pc := 64) (ls' := [(4, _), (5, _), (0, _), (1, _), (2, _), (3, _)]) C dX5_isLossOf_64 (by decide) rfl ?_
      refine p_iincC (pc := 66) (w := 2) (ls' := [(5, _), (4, _), (0, _), (1, _), (2, _), (3, _)]) C dX5_isLossOf_66 (by decide) rfl (by decide) (by decide) rfl ?_
      refine p_goto (pc := 69) (tgt := 13) C dX5_isLossOf_69 (by decide) ?_
      refine p_iload (pc := 13) C dX5_isLossOf_13 rfl ?_
      refine p_iconst (pc := 15) C dX5_isLossOf_15 (by decide) ?_
      refine p_icmp_ge (pc := 16) (tgt := 72) C dX5_isLossOf_16 (by decide) (fun h => absurd h (by decide)) (fun c_16 => ?_)
      refine p_iload (pc := 19) C dX5_isLossOf_19 rfl ?_
      refine p_if_eq (pc := 21) (tgt := 63) C dX5_isLossOf_21 (by decide) (fun c_21 => ?_) (fun h => absurd h (by decide))
      refine p_iconst (pc := 63) C dX5_isLossOf_63 (by decide) ?_
      refine p_istore (pc := 64) (ls' := [(4, _), (5, _), (0, _), (1, _), (2, _), (3, _)]) C dX5_isLossOf_64 (by decide) rfl ?_
      refine p_iincC (pc := 66) (w := 3) (ls' := [(5, _), (4, _), (0, _), (1, _), (2, _), (3, _)]) C dX5_isLossOf_66 (by decide) rfl (by decide) (by decide) rfl ?_
      refine p_goto (pc := 69) (tgt := 13) C dX5_isLossOf_69 (by decide) ?_
      refine p_iload (pc := 13) C dX5_isLossOf_13 rfl ?_
      refine p_iconst (pc := 15) C dX5_isLossOf_15 (by decide) ?_
      refine p_icmp_ge (pc := 16) (tgt := 72) C dX5_isLossOf_16 (by decide) (fun h => absurd h (by decide)) (fun c_16 => ?_)
      refine p_iload (pc := 19) C dX5_isLossOf_19 rfl ?_
      refine p_if_eq (pc := 21) (tgt := 63) C dX5_isLossOf_21 (by decide) (fun c_21 => ?_) (fun h => absurd h (by decide))
      refine p_iconst (pc := 63) C dX5_isLossOf_63 (by decide) ?_
      refine p_istore (pc := 64) (ls' := [(4, _), (5, _), (0, _), (1, _), (2, _), (3, _)]) C dX5_isLossOf_64 (by decide) rfl ?_
      refine p_iincC (pc := 66) (w := 4) (ls' := [(5, _), (4, _), (0, _), (1, _), (2, _), (3, _)]) C dX5_isLossOf_66 (by decide) rfl (by decide) (by decide) rfl ?_
      refine p_goto (pc := 69) (tgt := 13) C dX5_isLossOf_69 (by decide) ?_
      refine p_iload (pc := 13) C dX5_isLossOf_13 rfl ?_
      refine p_iconst (pc := 15) C dX5_isLossOf_15 (by decide) ?_
      refine p_icmp_ge (pc := 16) (tgt := 72) C dX5_isLossOf_16 (by decide) (fun c_16 => ?_) (fun h => absurd h (by decide))
      refine p_aload_n (pc := 72) C dX5_isLossOf_72 rfl ?_
      refine p_callVV (pc := 73) C ln_X5_186 dX5_isLossOf_73 (k_X5_putBack (by (repeat refine mg_n (by omega) ?_); first | assumption | exact mup_s _ _ _) (by omega) (by (repeat refine mg_n (by omega) ?_); first | assumption | exact mup_s _ _ _) (by (repeat refine mg_n (by omega) ?_); first | assumption | exact mup_s _ _ _) (by (repeat refine mg_n (by omega) ?_); first | assumption | exact mup_s _ _ _) (by (repeat refine mg_n (by omega) ?_); first | assumption | exact mup_s _ _ _)) ⟨by omega, by omega⟩ (by (repeat refine mg_n (by omega) ?_); first | assumption | exact mup_s _ _ _) rfl rfl rfl rfl (Nat.le_of_ble_eq_true rfl) (fun μ' hpost => ?_)
      obtain ⟨x, y, rfl, hx, hy⟩ := hpost
      refine p_iload (pc := 76) C dX5_isLossOf_76 rfl ?_
      refine p_zret (pc := 78) C dX5_isLossOf_78 (by first | exact Or.inl rfl | exact Or.inr rfl | (split <;> simp)) ?_
      first
        | exact ⟨by rw [@if_pos _ (Classical.propDecidable _) (show nmP F fr (los (ca k) (nm k) (rdN rg np (brg (kd k) (sg k)) (pt k) n.toNat)) from ⟨by omega, by omega, by omega, by omega⟩)], x, y, mup_5b _ _ _ _ _, MR_kp hK hx hy⟩
        | exact ⟨by rw [@if_neg _ (Classical.propDecidable _) (show ¬ nmP F fr (los (ca k) (nm k) (rdN rg np (brg (kd k) (sg k)) (pt k) n.toNat)) from fun z => by obtain ⟨z0, z1, z2, z3⟩ := z; omega)], x, y, mup_5b _ _ _ _ _, MR_kp hK hx hy⟩
    · refine p_iconst (pc := 59) C dX5_isLossOf_59 (by decide) ?_
      refine p_goto (pc := 60) (tgt := 64) C dX5_isLossOf_60 (by decide) ?_
      refine p_istore (pc := 64) (ls' := [(4, _), (5, _), (0, _), (1, _), (2, _), (3, _)]) C dX5_isLossOf_64 (by decide) rfl ?_
      refine p_iincC (pc := 66) (w := 2) (ls' := [(5, _), (4, _), (0, _), (1, _), (2, _), (3, _)]) C dX5_isLossOf_66 (by decide) rfl (by decide) (by decide) rfl ?_
      refine p_goto (pc := 69) (tgt := 13) C dX5_isLossOf_69 (by decide) ?_
      refine p_iload (pc := 13) C dX5_isLossOf_13 rfl ?_
      refine p_iconst (pc := 15) C dX5_isLossOf_15 (by decide) ?_
      refine p_icmp_ge (pc := 16) (tgt := 72) C dX5_isLossOf_16 (by decide) (fun h => absurd h (by decide)) (fun c_16 => ?_)
      refine p_iload (pc := 19) C dX5_isLossOf_19 rfl ?_
      refine p_if_eq (pc := 21) (tgt := 63) C dX5_isLossOf_21 (by decide) (fun h => absurd h (by decide)) (fun c_21 => ?_)
      refine p_aload_n (pc := 24) C dX5_isLossOf_24 rfl ?_
      refine p_get (pc := 25) C fl_X5_46 dX5_isLossOf_25 ⟨by omega, by omega⟩ (by (repeat refine mg_n (by omega) ?_); first | assumption | exact mup_s _ _ _) (by rfl) ?_
      refine p_iconst (pc := 28) C dX5_isLossOf_28 (by decide) ?_
      refine p_iload_n (pc := 29) C dX5_isLossOf_29 rfl ?_
      refine p_imul (pc := 30) C dX5_isLossOf_30 ⟨by omega, by omega⟩ ?_
      refine p_iload (pc := 31) C dX5_isLossOf_31 rfl ?_
      refine p_iadd (pc := 33) C dX5_isLossOf_33 ⟨by omega, by omega⟩ ?_
      refine p_iald (pc := 34) C dX5_isLossOf_34 ⟨by omega, by omega⟩ (by (repeat refine mg_n (by omega) ?_); first | assumption | exact mup_s _ _ _) (by omega) ?_
      refine p_aload_n (pc := 35) C dX5_isLossOf_35 rfl ?_
      refine p_get (pc := 36) C fl_X5_34 dX5_isLossOf_36 ⟨by omega, by omega⟩ (by (repeat refine mg_n (by omega) ?_); first | assumption | exact mup_s _ _ _) (by rfl) ?_
      refine p_iconst (pc := 39) C dX5_isLossOf_39 (by decide) ?_
      refine p_iload_n (pc := 40) C dX5_isLossOf_40 rfl ?_
      refine p_imul (pc := 41) C dX5_isLossOf_41 ⟨by omega, by omega⟩ ?_
      refine p_iload (pc := 42) C dX5_isLossOf_42 rfl ?_
      refine p_iadd (pc := 44) C dX5_isLossOf_44 ⟨by omega, by omega⟩ ?_
      refine p_iald (pc := 45) C dX5_isLossOf_45 ⟨by omega, by omega⟩ (by (repeat refine mg_n (by omega) ?_); first | assumption | exact mup_s _ _ _) (by omega) ?_
      refine p_isub (pc := 46) C dX5_isLossOf_46 ⟨by omega, by omega⟩ ?_
      refine p_aload_n (pc := 47) C dX5_isLossOf_47 rfl ?_
      refine p_get (pc := 48) C fl_X5_16 dX5_isLossOf_48 ⟨by omega, by omega⟩ (by (repeat refine mg_n (by omega) ?_); first | assumption | exact mup_s _ _ _) (by rfl) ?_
      refine p_iload_n (pc := 51) C dX5_isLossOf_51 rfl ?_
      refine p_iload (pc := 52) C dX5_isLossOf_52 rfl ?_
      refine p_iadd (pc := 54) C dX5_isLossOf_54 ⟨by omega, by omega⟩ ?_
      refine p_iald (pc := 55) C dX5_isLossOf_55 ⟨by omega, by omega⟩ (by (repeat refine mg_n (by omega) ?_); first | assumption | exact mup_s _ _ _) (by omega) ?_
      refine p_icmp_ne (pc := 56) (tgt := 63) C dX5_isLossOf_56 (by decide) (fun c_56 => ?_) (fun c_56 => ?_)
      · refine p_iconst (pc := 63) C dX5_isLossOf_63 (by decide) ?_
        refine p_istore (pc := 64) (ls' := [(4, _), (5, _), (0, _), (1, _), (2, _), (3, _)]) C dX5_isLossOf_64 (by decide) rfl ?_
        refine p_iincC (pc := 66) (w := 3) (ls' := [(5, _), (4, _), (0, _), (1, _), (2, _), (3, _)]) C dX5_isLossOf_66 (by decide) rfl (by decide) (by decide) rfl ?_
        refine p_goto (pc := 69) (tgt := 13) C dX5_isLossOf_69 (by decide) ?_
        refine p_iload (pc := 13) C dX5_isLossOf_13 rfl ?_
        refine p_iconst (pc := 15) C dX5_isLossOf_15 (by decide) ?_
        refine p_icmp_ge (pc := 16) (tgt := 72) C dX5_isLossOf_16 (by decide) (fun h => absurd h (by decide)) (fun c_16 => ?_)
        refine p_iload (pc := 19) C dX5_isLossOf_19 rfl ?_
        refine p_if_eq (pc := 21) (tgt := 63) C dX5_isLossOf_21 (by decide) (fun c_21 => ?_) (fun h => absurd h (by decide))
        refine p_iconst (pc := 63) C dX5_isLossOf_63 (by decide) ?_
        refine p_istore (pc := 64) (ls' := [(4, _), (5, _), (0, _), (1, _), (2, _), (3, _)]) C dX5_isLossOf_64 (by decide) rfl ?_
        refine p_iincC (pc := 66) (w := 4) (ls' := [(5, _), (4, _), (0, _), (1, _), (2, _), (3, _)]) C dX5_isLossOf_66 (by decide) rfl (by decide) (by decide) rfl ?_
        refine p_goto (pc := 69) (tgt := 13) C dX5_isLossOf_69 (by decide) ?_
        refine p_iload (pc := 13) C dX5_isLossOf_13 rfl ?_
        refine p_iconst (pc := 15) C dX5_isLossOf_15 (by decide) ?_
        refine p_icmp_ge (pc := 16) (tgt := 72) C dX5_isLossOf_16 (by decide) (fun c_16 => ?_) (fun h => absurd h (by decide))
        refine p_aload_n (pc := 72) C dX5_isLossOf_72 rfl ?_
        refine p_callVV (pc := 73) C ln_X5_186 dX5_isLossOf_73 (k_X5_putBack (by (repeat refine mg_n (by omega) ?_); first | assumption | exact mup_s _ _ _) (by omega) (by (repeat refine mg_n (by omega) ?_); first | assumption | exact mup_s _ _ _) (by (repeat refine mg_n (by omega) ?_); first | assumption | exact mup_s _ _ _) (by (repeat refine mg_n (by omega) ?_); first | assumption | exact mup_s _ _ _) (by (repeat refine mg_n (by omega) ?_); first | assumption | exact mup_s _ _ _)) ⟨by omega, by omega⟩ (by (repeat refine mg_n (by omega) ?_); first | assumption | exact mup_s _ _ _) rfl rfl rfl rfl (Nat.le_of_ble_eq_true rfl) (fun μ' hpost => ?_)
        obtain ⟨x, y, rfl, hx, hy⟩ := hpost
        refine p_iload (pc := 76) C dX5_isLossOf_76 rfl ?_
        refine p_zret (pc := 78) C dX5_isLossOf_78 (by first | exact Or.inl rfl | exact Or.inr rfl | (split <;> simp)) ?_
        first
          | exact ⟨by rw [@if_pos _ (Classical.propDecidable _) (show nmP F fr (los (ca k) (nm k) (rdN rg np (brg (kd k) (sg k)) (pt k) n.toNat)) from ⟨by omega, by omega, by omega, by omega⟩)], x, y, mup_5b _ _ _ _ _, MR_kp hK hx hy⟩
          | exact ⟨by rw [@if_neg _ (Classical.propDecidable _) (show ¬ nmP F fr (los (ca k) (nm k) (rdN rg np (brg (kd k) (sg k)) (pt k) n.toNat)) from fun z => by obtain ⟨z0, z1, z2, z3⟩ := z; omega)], x, y, mup_5b _ _ _ _ _, MR_kp hK hx hy⟩
      · refine p_iconst (pc := 59) C dX5_isLossOf_59 (by decide) ?_
        refine p_goto (pc := 60) (tgt := 64) C dX5_isLossOf_60 (by decide) ?_
        refine p_istore (pc := 64) (ls' := [(4, _), (5, _), (0, _), (1, _), (2, _), (3, _)]) C dX5_isLossOf_64 (by decide) rfl ?_
        refine p_iincC (pc := 66) (w := 3) (ls' := [(5, _), (4, _), (0, _), (1, _), (2, _), (3, _)]) C dX5_isLossOf_66 (by decide) rfl (by decide) (by decide) rfl ?_
        refine p_goto (pc := 69) (tgt := 13) C dX5_isLossOf_69 (by decide) ?_
        refine p_iload (pc := 13) C dX5_isLossOf_13 rfl ?_
        refine p_iconst (pc := 15) C dX5_isLossOf_15 (by decide) ?_
        refine p_icmp_ge (pc := 16) (tgt := 72) C dX5_isLossOf_16 (by decide) (fun h => absurd h (by decide)) (fun c_16 => ?_)
        refine p_iload (pc := 19) C dX5_isLossOf_19 rfl ?_
        refine p_if_eq (pc := 21) (tgt := 63) C dX5_isLossOf_21 (by decide) (fun h => absurd h (by decide)) (fun c_21 => ?_)
        refine p_aload_n (pc := 24) C dX5_isLossOf_24 rfl ?_
        refine p_get (pc := 25) C fl_X5_46 dX5_isLossOf_25 ⟨by omega, by omega⟩ (by (repeat refine mg_n (by omega) ?_); first | assumption | exact mup_s _ _ _) (by rfl) ?_
        refine p_iconst (pc := 28) C dX5_isLossOf_28 (by decide) ?_
        refine p_iload_n (pc := 29) C dX5_isLossOf_29 rfl ?_
        refine p_imul (pc := 30) C dX5_isLossOf_30 ⟨by omega, by omega⟩ ?_
        refine p_iload (pc := 31) C dX5_isLossOf_31 rfl ?_
        refine p_iadd (pc := 33) C dX5_isLossOf_33 ⟨by omega, by omega⟩ ?_
        refine p_iald (pc := 34) C dX5_isLossOf_34 ⟨by omega, by omega⟩ (by (repeat refine mg_n (by omega) ?_); first | assumption | exact mup_s _ _ _) (by omega) ?_
        refine p_aload_n (pc := 35) C dX5_isLossOf_35 rfl ?_
        refine p_get (pc := 36) C fl_X5_34 dX5_isLossOf_36 ⟨by omega, by omega⟩ (by (repeat refine mg_n (by omega) ?_); first | assumption | exact mup_s _ _ _) (by rfl) ?_
        refine p_iconst (pc := 39) C dX5_isLossOf_39 (by decide) ?_
        refine p_iload_n (pc := 40) C dX5_isLossOf_40 rfl ?_
        refine p_imul (pc := 41) C dX5_isLossOf_41 ⟨by omega, by omega⟩ ?_
        refine p_iload (pc := 42) C dX5_isLossOf_42 rfl ?_
        refine p_iadd (pc := 44) C dX5_isLossOf_44 ⟨by omega, by omega⟩ ?_
        refine p_iald (pc := 45) C dX5_isLossOf_45 ⟨by omega, by omega⟩ (by (repeat refine mg_n (by omega) ?_); first | assumption | exact mup_s _ _ _) (by omega) ?_
        refine p_isub (pc := 46) C dX5_isLossOf_46 ⟨by omega, by omega⟩ ?_
        refine p_aload_n (pc := 47) C dX5_isLossOf_47 rfl ?_
        refine p_get (pc := 48) C fl_X5_16 dX5_isLossOf_48 ⟨by omega, by omega⟩ (by (repeat refine mg_n (by omega) ?_); first | assumption | exact mup_s _ _ _) (by rfl) ?_
        refine p_iload_n (pc := 51) C dX5_isLossOf_51 rfl ?_
        refine p_iload (pc := 52) C dX5_isLossOf_52 rfl ?_
        refine p_iadd (pc := 54) C dX5_isLossOf_54 ⟨by omega, by omega⟩ ?_
        refine p_iald (pc := 55) C dX5_isLossOf_55 ⟨by omega, by omega⟩ (by (repeat refine mg_n (by omega) ?_); first | assumption | exact mup_s _ _ _) (by omega) ?_
        refine p_icmp_ne (pc := 56) (tgt := 63) C dX5_isLossOf_56 (by decide) (fun c_56 => ?_) (fun c_56 => ?_)
        · refine p_iconst (pc := 63) C dX5_isLossOf_63 (by decide) ?_
          refine p_istore (pc := 64) (ls' := [(4, _), (5, _), (0, _), (1, _), (2, _), (3, _)]) C dX5_isLossOf_64 (by decide) rfl ?_
          refine p_iincC (pc := 66) (w := 4) (ls' := [(5, _), (4, _), (0, _), (1, _), (2, _), (3, _)]) C dX5_isLossOf_66 (by decide) rfl (by decide) (by decide) rfl ?_
          refine p_goto (pc := 69) (tgt := 13) C dX5_isLossOf_69 (by decide) ?_
          refine p_iload (pc := 13) C dX5_isLossOf_13 rfl ?_
          refine p_iconst (pc := 15) C dX5_isLossOf_15 (by decide) ?_
          refine p_icmp_ge (pc := 16) (tgt := 72) C dX5_isLossOf_16 (by decide) (fun c_16 => ?_) (fun h => absurd h (by decide))
          refine p_aload_n (pc := 72) C dX5_isLossOf_72 rfl ?_
          refine p_callVV (pc := 73) C ln_X5_186 dX5_isLossOf_73 (k_X5_putBack (by (repeat refine mg_n (by omega) ?_); first | assumption | exact mup_s _ _ _) (by omega) (by (repeat refine mg_n (by omega) ?_); first | assumption | exact mup_s _ _ _) (by (repeat refine mg_n (by omega) ?_); first | assumption | exact mup_s _ _ _) (by (repeat refine mg_n (by omega) ?_); first | assumption | exact mup_s _ _ _) (by (repeat refine mg_n (by omega) ?_); first | assumption | exact mup_s _ _ _)) ⟨by omega, by omega⟩ (by (repeat refine mg_n (by omega) ?_); first | assumption | exact mup_s _ _ _) rfl rfl rfl rfl (Nat.le_of_ble_eq_true rfl) (fun μ' hpost => ?_)
          obtain ⟨x, y, rfl, hx, hy⟩ := hpost
          refine p_iload (pc := 76) C dX5_isLossOf_76 rfl ?_
          refine p_zret (pc := 78) C dX5_isLossOf_78 (by first | exact Or.inl rfl | exact Or.inr rfl | (split <;> simp)) ?_
          first
            | exact ⟨by rw [@if_pos _ (Classical.propDecidable _) (show nmP F fr (los (ca k) (nm k) (rdN rg np (brg (kd k) (sg k)) (pt k) n.toNat)) from ⟨by omega, by omega, by omega, by omega⟩)], x, y, mup_5b _ _ _ _ _, MR_kp hK hx hy⟩
            | exact ⟨by rw [@if_neg _ (Classical.propDecidable _) (show ¬ nmP F fr (los (ca k) (nm k) (rdN rg np (brg (kd k) (sg k)) (pt k) n.toNat)) from fun z => by obtain ⟨z0, z1, z2, z3⟩ := z; omega)], x, y, mup_5b _ _ _ _ _, MR_kp hK hx hy⟩
        · refine p_iconst (pc := 59) C dX5_isLossOf_59 (by decide) ?_
          refine p_goto (pc := 60) (tgt := 64) C dX5_isLossOf_60 (by decide) ?_
          refine p_istore (pc := 64) (ls' := [(4, _), (5, _), (0, _), (1, _), (2, _), (3, _)]) C dX5_isLossOf_64 (by decide) rfl ?_
          refine p_iincC (pc := 66) (w := 4) (ls' := [(5, _), (4, _), (0, _), (1, _), (2, _), (3, _)]) C dX5_isLossOf_66 (by decide) rfl (by decide) (by decide) rfl ?_
          refine p_goto (pc := 69) (tgt := 13) C dX5_isLossOf_69 (by decide) ?_
          refine p_iload (pc := 13) C dX5_isLossOf_13 rfl ?_
          refine p_iconst (pc := 15) C dX5_isLossOf_15 (by decide) ?_
          refine p_icmp_ge (pc := 16) (tgt := 72) C dX5_isLossOf_16 (by decide) (fun c_16 => ?_) (fun h => absurd h (by decide))
          refine p_aload_n (pc := 72) C dX5_isLossOf_72 rfl ?_
          refine p_callVV (pc := 73) C ln_X5_186 dX5_isLossOf_73 (k_X5_putBack (by (repeat refine mg_n (by omega) ?_); first | assumption | exact mup_s _ _ _) (by omega) (by (repeat refine mg_n (by omega) ?_); first | assumption | exact mup_s _ _ _) (by (repeat refine mg_n (by omega) ?_); first | assumption | exact mup_s _ _ _) (by (repeat refine mg_n (by omega) ?_); first | assumption | exact mup_s _ _ _) (by (repeat refine mg_n (by omega) ?_); first | assumption | exact mup_s _ _ _)) ⟨by omega, by omega⟩ (by (repeat refine mg_n (by omega) ?_); first | assumption | exact mup_s _ _ _) rfl rfl rfl rfl (Nat.le_of_ble_eq_true rfl) (fun μ' hpost => ?_)
          obtain ⟨x, y, rfl, hx, hy⟩ := hpost
          refine p_iload (pc := 76) C dX5_isLossOf_76 rfl ?_
          refine p_zret (pc := 78) C dX5_isLossOf_78 (by first | exact Or.inl rfl | exact Or.inr rfl | (split <;> simp)) ?_
          first
            | exact ⟨by rw [@if_pos _ (Classical.propDecidable _) (show nmP F fr (los (ca k) (nm k) (rdN rg np (brg (kd k) (sg k)) (pt k) n.toNat)) from ⟨by omega, by omega, by omega, by omega⟩)], x, y, mup_5b _ _ _ _ _, MR_kp hK hx hy⟩
            | exact ⟨by rw [@if_neg _ (Classical.propDecidable _) (show ¬ nmP F fr (los (ca k) (nm k) (rdN rg np (brg (kd k) (sg k)) (pt k) n.toNat)) from fun z => by obtain ⟨z0, z1, z2, z3⟩ := z; omega)], x, y, mup_5b _ _ _ _ _, MR_kp hK hx hy⟩

theorem MV_nm {np ns day nr tr fl : Int} {rg kd nm sg pt : Int → Int} {ca : Int → Int → Int} {rs rp rl th la ln : Int → Int} {ce : Int → Int → Int} {μ ν : Int → ME} {at_ rP rS lp lw lf sL sF : Int} {g : Int → Int} (h : MV np ns day nr tr fl rg kd nm sg pt ca rs rp rl th la ln ce μ) (g4 : (∃ p c : Int → Int, ν 54 = mA 5 p ∧ ν 55 = mA 20 c ∧ MR ns (pt, ca, 0, 0, -9) p c) ∧ (∀ x, x ≠ 48 → x ≠ 50 → x ≠ 51 → x ≠ 54 → x ≠ 55 → ν x = mup μ 42 (oM 0 tr np ns day at_ rP rS lp lw lf sL sF nr) x)) (g5 : ∃ p c : Int → Int, ν 50 = mA 5 p ∧ ν 51 = mA 20 c ∧ MR ns (pt, ca, 0, 0, -9) p c) (hg : ∀ p, 0 ≤ p → p < ns → g p = nm p) : MV np ns day nr tr (0) rg kd nm sg pt ca rs rp rl th la ln ce (mup ν 48 (mA 5 g)) := by
  obtain ⟨m42, m43, m44, m45, ⟨m46, m47, m48, m49⟩, mD, ⟨m52, m53, m54, m55, m56⟩, m57, m58, m59⟩ := h
  obtain ⟨⟨p, c, h54, h55, -⟩, ho⟩ := g4
  obtain ⟨p1, c1, h50, h51, hR⟩ := g5
  have e : ∀ z, z ≠ 42 → z ≠ 48 → z ≠ 50 → z ≠ 51 → z ≠ 54 → z ≠ 55 → mup ν 48 (mA 5 g) z = μ z := fun z zz z0 z1 z2 z3 z4 => mg_n z0 ((ho z z0 z1 z2 z3 z4).trans (mg_n zz rfl))
  refine ⟨⟨_, _, _, _, _, _, _, _, mg_n (by omega) ((ho 42 (by omega) (by omega) (by omega) (by omega) (by omega)).trans (mup_s _ _ _))⟩, ?_, ?_, ?_, ⟨?_, ?_, ⟨g, mup_s _ _ _, hg⟩, ?_⟩, ⟨p1, c1, mg_n (by omega) h50, mg_n (by omega) h51, hR⟩, ⟨?_, ?_, ⟨p, mg_n (by omega) h54⟩, ⟨c, mg_n (by omega) h55⟩, ?_⟩, ?_, ?_, ?_⟩
  · rw [e 43 (by omega) (by omega) (by omega) (by omega) (by omega) (by omega)]; exact m43
  · rw [e 44 (by omega) (by omega) (by omega) (by omega) (by omega) (by omega)]; exact m44
  · rw [e 45 (by omega) (by omega) (by omega) (by omega) (by omega) (by omega)]; exact m45
  · rw [e 46 (by omega) (by omega) (by omega) (by omega) (by omega) (by omega)]; exact m46
  · rw [e 47 (by omega) (by omega) (by omega) (by omega) (by omega) (by omega)]; exact m47
  · rw [e 49 (by omega) (by omega) (by omega) (by omega) (by omega) (by omega)]; exact m49
  · rw [e 52 (by omega) (by omega) (by omega) (by omega) (by omega) (by omega)]; exact m52
  · rw [e 53 (by omega) (by omega) (by omega) (by omega) (by omega) (by omega)]; exact m53
  · rw [e 56 (by omega) (by omega) (by omega) (by omega) (by omega) (by omega)]; exact m56
  · rw [e 57 (by omega) (by omega) (by omega) (by omega) (by omega) (by omega)]; exact m57
  · rw [e 58 (by omega) (by omega) (by omega) (by omega) (by omega) (by omega)]; exact m58
  · rw [e 59 (by omega) (by omega) (by omega) (by omega) (by omega) (by omega)]; exact m59
theorem ag_fot {th la ln so le l i n : Int} (hs : so = if th = 0 then -9 else la) (hle : th ≠ 0 → le = ln) (hl : 0 ≤ l) (hla : th = 1 → 0 ≤ la ∧ la ≤ 2) (ht : th = 0 ∨ th = 1) : agT so le l i n = fot th la ln l i n := by
  unfold agT fot
  rcases ht with rfl | rfl
  · rw [if_pos rfl] at hs; subst hs
    rw [if_neg (by omega), if_pos rfl, if_neg (by omega), if_pos rfl]
  · rw [if_neg (by omega)] at hs
    have h1 := hle (by omega)
    have h2 := hla rfl
    subst hs; subst h1
    by_cases e : so = l
    · rw [if_neg (show ¬ (so ≠ -9 ∧ so ≠ l) by omega), if_neg (show ¬ so = -9 by omega), if_neg (show ¬ ((1 : Int) ≠ 0 ∧ so ≠ l) by omega), if_neg (show ¬ (1 : Int) = 0 by omega)]
    · rw [if_pos (show so ≠ -9 ∧ so ≠ l by omega), if_pos (show (1 : Int) ≠ 0 ∧ so ≠ l by omega)]

set_option maxHeartbeats 4000000 in
set_option maxRecDepth 100000 in
theorem q_X5_names {K : KX} {d : Nat} {μ : Int → ME} {s l i k n : Int} {np ns day nr tr fl : Int} {rg kd nm sg pt : Int → Int} {ca : Int → Int → Int} {rs rp rl th la ln : Int → Int} {ce : Int → Int → Int} (hV : MV np ns day nr tr fl rg kd nm sg pt ca rs rp rl th la ln ce μ) (hW : WF np ns day nr tr fl rg kd nm sg pt ca rs rp rl th la ln ce) : Ct K (d + 5) yX5_names cX5_names 10 (some .int) [vR 42, vI s, vI l, vI i, vI k, vI n] μ (fun r μ' => (∀ a, a < 42 → μ' a = μ a) ∧ (if ¬ ((0 ≤ s ∧ s < 4) ∧ (0 ≤ k ∧ k < ns)) then r = some (vI (-1)) ∧ MV np ns day nr tr (0) rg kd nm sg pt ca rs rp rl th la ln ce μ' else if ¬ ((0 ≤ l ∧ l < 3) ∧ (0 ≤ n ∧ n ≤ 30)) then r = some (vI (-2)) ∧ MV np ns day nr tr (0) rg kd nm sg pt ca rs rp rl th la ln ce μ' else if fot (th s) (la s) (ln s) l i 4 ≠ 0 then r = some (vI (-10 - fot (th s) (la s) (ln s) l i 4)) ∧ MV np ns day nr tr (fot (th s) (la s) (ln s) l i 4) rg kd nm sg pt ca rs rp rl th la ln ce μ' else r = some (vI (orN (fun v => nmP (cAt (ln s) (ce s)) i (los (ca k) v (rdN rg np (brg (kd k) (sg k)) (pt k) n.toNat))) 0 0 4)) ∧ MV np ns day nr tr (0) rg kd nm sg pt ca rs rp rl th la ln ce μ')) := by
  refine Ct.of (by decide) (Nat.le_of_ble_eq_true rfl) (fun X C => ?_)
  obtain ⟨m42, m43, m44, m45, mB, mD, ⟨m52, m53, m54, m55, m56⟩, m57, m58, m59⟩ := id hV
  obtain ⟨m46, m47, m48, m49⟩ := id mB
  obtain ⟨at_, rP, rS, lp, lw, lf, sL, sF, h0⟩ := id m42
  obtain ⟨f43, h43, e43⟩ := id m43
  obtain ⟨f44, h44, e44⟩ := id m44
  obtain ⟨f45, h45, e45⟩ := id m45
  obtain ⟨f46, h46, e46⟩ := id m46
  obtain ⟨f47, h47, e47⟩ := id m47
  obtain ⟨f48, h48, e48⟩ := id m48
  obtain ⟨f49, h49, e49⟩ := id m49
  obtain ⟨pf, cf, h50, h51, hMR⟩ := id mD
  obtain ⟨f57, h57, e57⟩ := id m57
  obtain ⟨f58, h58, e58⟩ := id m58
  obtain ⟨f59, h59, e59⟩ := id m59
  obtain ⟨w0, w1, w2, w3, w4, w5, w6⟩ := id hW
  obtain ⟨f54, h54⟩ := id m54
  obtain ⟨f55, h55⟩ := id m55
  have L : ∀ (t : Nat) (v w : Int) (ν : Int → ME), 0 ≤ v → 4 - v = (t : Int) → ((0 ≤ s ∧ s < 4) ∧ (0 ≤ k ∧ k < ns) ∧ (0 ≤ l ∧ l < 3) ∧ (0 ≤ n ∧ n ≤ 30) ∧ fot (th s) (la s) (ln s) l i 4 = 0) → ((∃ p c : Int → Int, ν 54 = mA 5 p ∧ ν 55 = mA 20 c ∧ MR ns (pt, ca, 0, 0, -9) p c) ∧ (∀ x, x ≠ 48 → x ≠ 50 → x ≠ 51 → x ≠ 54 → x ≠ 55 → ν x = (mup μ 42 (oM 0 tr np ns day at_ rP rS lp lw lf sL sF nr)) x)) → (∃ p c : Int → Int, ν 50 = mA 5 p ∧ ν 51 = mA 20 c ∧ MR ns (pt, ca, 0, 0, -9) p c) → (∃ g : Int → Int, ν 48 = mA 5 g ∧ ∀ p, 0 ≤ p → p < ns → p ≠ k → g p = nm p) → rng w → orN (fun v => nmP (cAt (ln s) (ce s)) i (los (ca k) v (rdN rg np (brg (kd k) (sg k)) (pt k) n.toNat))) v w t = orN (fun v => nmP (cAt (ln s) (ce s)) i (los (ca k) v (rdN rg np (brg (kd k) (sg k)) (pt k) n.toNat))) 0 0 4 → PW K X 10 (QM K X (fun r μ' => (∀ a, a < 42 → μ' a = μ a) ∧ (if ¬ ((0 ≤ s ∧ s < 4) ∧ (0 ≤ k ∧ k < ns)) then r = some (vI (-1)) ∧ MV np ns day nr tr (0) rg kd nm sg pt ca rs rp rl th la ln ce μ' else if ¬ ((0 ≤ l ∧ l < 3) ∧ (0 ≤ n ∧ n ≤ 30)) then r = some (vI (-2)) ∧ MV np ns day nr tr (0) rg kd nm sg pt ca rs rp rl th la ln ce μ' else if fot (th s) (la s) (ln s) l i 4 ≠ 0 then r = some (vI (-10 - fot (th s) (la s) (ln s) l i 4)) ∧ MV np ns day nr tr (fot (th s) (la s) (ln s) l i 4) rg kd nm sg pt ca rs rp rl th la ln ce μ' else r = some (vI (orN (fun v => nmP (cAt (ln s) (ce s)) i (los (ca k) v (rdN rg np (brg (kd k) (sg k)) (pt k) n.toNat))) 0 0 4)) ∧ MV np ns day nr tr (0) rg kd nm sg pt ca rs rp rl th la ln ce μ'))) 85 [(9, vI v), (8, vI w), (7, vI (f48 k)), (0, vR 42), (1, vI s), (2, vI l), (3, vI i), (4, vI k), (5, vI n)] [] ν := by
    intro t
    induction t with
    | zero =>
      intro v w ν g1 g2 g3 g4 g5 g8 g7 g6
      rw [orN] at g6
      obtain ⟨p1, c1, u50, u51, uR⟩ := id g5
      obtain ⟨⟨p4, c4, u54, u55, uK⟩, uo⟩ := id g4
      obtain ⟨gk, uo2⟩ := id g8
      have u0 : ν 42 = oM 0 tr np ns day at_ rP rS lp lw lf sL sF nr := (uo 42 (by omega) (by omega) (by omega) (by omega) (by omega)).trans (mup_s _ _ _)
      have uz := uo2.1
      refine p_iload (pc := 85) C dX5_names_85 rfl ?_
      refine p_iconst (pc := 87) C dX5_names_87 (by decide) ?_
      refine p_icmp_ge (pc := 88) (tgt := 136) C dX5_names_88 (by decide) (fun c_88 => ?_) (fun h => by exfalso; omega)
      refine p_aload_n (pc := 136) C dX5_names_136 rfl ?_
      refine p_get (pc := 137) C fl_X5_25 dX5_names_137 ⟨by omega, by omega⟩ (by (repeat refine mg_n (by omega) ?_); first | assumption | exact mup_s _ _ _) (by rfl) ?_
      refine p_iload (pc := 140) C dX5_names_140 rfl ?_
      refine p_iload (pc := 142) C dX5_names_142 rfl ?_
      refine p_iast (pc := 144) C dX5_names_144 ⟨by omega, by omega⟩ (by (repeat refine mg_n (by omega) ?_); first | assumption | exact mup_s _ _ _) (by omega) ?_
      try refine p_mem (mup_mup _ _ _ _) ?_
      refine p_iload (pc := 145) C dX5_names_145 rfl ?_
      refine p_iret (pc := 147) C dX5_names_147 ?_
      refine ⟨fun q hq => mg_n (by omega) ((uo q (by omega) (by omega) (by omega) (by omega) (by omega)).trans (mg_n (by omega) rfl)), ?_⟩
      rw [if_neg (by omega), if_neg (by omega), if_neg (by omega)]
      exact ⟨sv g6, MV_nm hV g4 g5 (fun p p0 p1 => by
        by_cases e : p = k
        · subst e; rw [fup_s]; exact e48 p p0 p1
        · rw [fup_n _ _ _ e]; exact uo2.2 p p0 p1 e)⟩
    | succ t ih =>
      intro v w ν g1 g2 g3 g4 g5 g8 g7 g6
      obtain ⟨p1, c1, u50, u51, uR⟩ := id g5
      obtain ⟨⟨p4, c4, u54, u55, uK⟩, uo⟩ := id g4
      obtain ⟨gk, uo2⟩ := id g8
      obtain ⟨g48, g49a⟩ := uo2
      have hz := fot_0 g3.2.2.2.2
      have q4 := e44 s (by omega) (by omega)
      obtain ⟨y1, y2, y3⟩ := w6 s (by omega) (by omega)
      have u0 : ν 42 = oM 0 tr np ns day at_ rP rS lp lw lf sL sF nr := (uo 42 (by omega) (by omega) (by omega) (by omega) (by omega)).trans (mup_s _ _ _)
      have u45 : ν 45 = mA 240 f45 := (uo 45 (by omega) (by omega) (by omega) (by omega) (by omega)).trans (mg_n (by omega) h45)
      have uB : MB rg kd (fup nm k v) sg np ns (mup ν 48 (mA 5 (fup gk k v))) := by
        obtain ⟨⟨a1, a2, a3⟩, ⟨b1, b2, b3⟩, -, ⟨d1, d2, d3⟩⟩ := id mB
        refine ⟨⟨a1, mg_n (by omega) ((uo 46 (by omega) (by omega) (by omega) (by omega) (by omega)).trans (mg_n (by omega) a2)), a3⟩, ⟨b1, mg_n (by omega) ((uo 47 (by omega) (by omega) (by omega) (by omega) (by omega)).trans (mg_n (by omega) b2)), b3⟩, ⟨_, mup_s _ _ _, fun p p0 p1 => ?_⟩, ⟨d1, mg_n (by omega) ((uo 49 (by omega) (by omega) (by omega) (by omega) (by omega)).trans (mg_n (by omega) d2)), d3⟩⟩
        by_cases e : p = k
        · subst e; rw [fup_s, fup_s]
        · rw [fup_n _ _ _ e, fup_n _ _ _ e]; exact g49a p p0 p1 e
      have uN : WN ns kd (fup nm k v) sg := fun j j0 j1 => by
        obtain ⟨a1, a2, a3⟩ := w3 j j0 j1
        by_cases e : j = k
        · subst e; rw [fup_s]; exact ⟨a1, by omega, a3⟩
        · rw [fup_n _ _ _ e]; exact ⟨a1, a2, a3⟩
      have hPQ : (fun v => nmP (cAt (ln s) (ce s)) i (los (ca k) v (rdN rg np (brg (kd k) (sg k)) (pt k) n.toNat))) v ↔ nmP f45 (60 * s + i) (los (ca k) (fup nm k v k) (rdN rg np (brg (kd k) (sg k)) (pt k) n.toNat)) := by
        have key : ∀ j, 0 ≤ j → j < 4 → cAt (ln s) (ce s) (i + j) = f45 (60 * s + i + j) := fun j j0 j1 => by
          unfold cAt; rw [if_pos (by omega), show 60 * s + i + j = 60 * s + (i + j) by omega]; exact (e45 s (by omega) (by omega) (by omega) (i + j) (by omega) (by omega)).symm
        unfold nmP; rw [fup_s, key 0 (by omega) (by omega), key 1 (by omega) (by omega), key 2 (by omega) (by omega), key 3 (by omega) (by omega)]
      refine p_iload (pc := 85) C dX5_names_85 rfl ?_
      refine p_iconst (pc := 87) C dX5_names_87 (by decide) ?_
      refine p_icmp_ge (pc := 88) (tgt := 136) C dX5_names_88 (by decide) (fun h => by exfalso; omega) (fun c_88 => ?_)
      refine p_aload_n (pc := 91) C dX5_names_91 rfl ?_
      refine p_get (pc := 92) C fl_X5_25 dX5_names_92 ⟨by omega, by omega⟩ (by (repeat refine mg_n (by omega) ?_); first | assumption | exact mup_s _ _ _) (by rfl) ?_
      refine p_iload (pc := 95) C dX5_names_95 rfl ?_
      refine p_iload (pc := 97) C dX5_names_97 rfl ?_
      refine p_iast (pc := 99) C dX5_names_99 ⟨by omega, by omega⟩ (by (repeat refine mg_n (by omega) ?_); first | assumption | exact mup_s _ _ _) (by omega) ?_
      try refine p_mem (mup_mup _ _ _ _) ?_
      refine p_iload (pc := 100) C dX5_names_100 rfl ?_
      refine p_aload_n (pc := 102) C dX5_names_102 rfl ?_
      refine p_iload (pc := 103) C dX5_names_103 rfl ?_
      refine p_iload (pc := 105) C dX5_names_105 rfl ?_
      refine p_bipush (pc := 107) C dX5_names_107 (by decide) ?_
      refine p_iload_n (pc := 109) C dX5_names_109 rfl ?_
      refine p_imul (pc := 110) C dX5_names_110 ⟨by omega, by omega⟩ ?_
      refine p_iload_n (pc := 111) C dX5_names_111 rfl ?_
      refine p_iadd (pc := 112) C dX5_names_112 ⟨by omega, by omega⟩ ?_
      refine p_callVE (pc := 113) C ln_X5_219 dX5_names_113 (k_X5_isLossOf (pt := pt) (ca := ca) (mg_n (by omega) u0) (by omega) (by omega) uB (by omega) (mg_n (by omega) u45) (mg_n (by omega) u50) (mg_n (by omega) u51) (mg_n (by omega) u54) (mg_n (by omega) u55) uR uK w4 uN (by omega) (by omega)) ⟨by omega, by omega⟩ (by (repeat refine mg_n (by omega) ?_); first | assumption | exact mup_s _ _ _) rfl rfl rfl rfl (Nat.le_of_ble_eq_true rfl) (fun μ' hpost => ?_)
      obtain ⟨x, y, rfl, hxy⟩ := hpost
      refine p_ifeq_b (pc := 116) (tgt := 126) C dX5_names_116 (by decide) (fun c_116 => ?_) (fun c_116 => ?_)
      · refine p_iconst (pc := 126) C dX5_names_126 (by decide) ?_
        refine p_ior (pc := 127) C dX5_names_127 ?_
        refine p_istore (pc := 128) (ls' := [(8, _), (9, _), (7, _), (0, _), (1, _), (2, _), (3, _), (4, _), (5, _)]) C dX5_names_128 (by decide) rfl ?_
        refine p_iinc (pc := 130) (ls' := [(9, _), (8, _), (7, _), (0, _), (1, _), (2, _), (3, _), (4, _), (5, _)]) C dX5_names_130 (by decide) rfl ⟨by omega, by omega⟩ rfl ?_
        refine p_goto (pc := 133) (tgt := 85) C dX5_names_133 (by decide) ?_
        first
          | (rw [or_t (P := (fun v => nmP (cAt (ln s) (ce s)) i (los (ca k) v (rdN rg np (brg (kd k) (sg k)) (pt k) n.toNat)))) (v := v) (hPQ.mpr c_116)] at g6; exact ih (v + 1) _ _ (by omega) (by omega) g3 ⟨⟨p4, c4, mg_n (by omega) (mg_n (by omega) (mg_n (by omega) u54)), mg_n (by omega) (mg_n (by omega) (mg_n (by omega) u55)), uK⟩, fun z z0 z1 z2 z3 z4 => mg_n z2 (mg_n z1 (mg_n z0 (uo z z0 z1 z2 z3 z4)))⟩ ⟨x, y, mg_n (by omega) (mup_s _ _ _), mup_s _ _ _, hxy⟩ ⟨_, mg_n (by omega) (mg_n (by omega) (mup_s _ _ _)), fun p p0 p1 pk => by rw [fup_n _ _ _ pk]; exact g49a p p0 p1 pk⟩ (iOr_r _ _) g6)
          | (rw [or_f (P := (fun v => nmP (cAt (ln s) (ce s)) i (los (ca k) v (rdN rg np (brg (kd k) (sg k)) (pt k) n.toNat)))) (v := v) (fun z => c_116 (hPQ.mp z))] at g6; refine p_ls (by rw [iOr_0 g7]) ?_; exact ih (v + 1) _ _ (by omega) (by omega) g3 ⟨⟨p4, c4, mg_n (by omega) (mg_n (by omega) (mg_n (by omega) u54)), mg_n (by omega) (mg_n (by omega) (mg_n (by omega) u55)), uK⟩, fun z z0 z1 z2 z3 z4 => mg_n z2 (mg_n z1 (mg_n z0 (uo z z0 z1 z2 z3 z4)))⟩ ⟨x, y, mg_n (by omega) (mup_s _ _ _), mup_s _ _ _, hxy⟩ ⟨_, mg_n (by omega) (mg_n (by omega) (mup_s _ _ _)), fun p p0 p1 pk => by rw [fup_n _ _ _ pk]; exact g49a p p0 p1 pk⟩ g7 g6)
      · refine p_iconst (pc := 119) C dX5_names_119 (by decide) ?_
        refine p_iload (pc := 120) C dX5_names_120 rfl ?_
        refine p_ishl (pc := 122) C dX5_names_122 ?_
        refine p_goto (pc := 123) (tgt := 127) C dX5_names_123 (by decide) ?_
        refine p_ior (pc := 127) C dX5_names_127 ?_
        refine p_istore (pc := 128) (ls' := [(8, _), (9, _), (7, _), (0, _), (1, _), (2, _), (3, _), (4, _), (5, _)]) C dX5_names_128 (by decide) rfl ?_
        refine p_iinc (pc := 130) (ls' := [(9, _), (8, _), (7, _), (0, _), (1, _), (2, _), (3, _), (4, _), (5, _)]) C dX5_names_130 (by decide) rfl ⟨by omega, by omega⟩ rfl ?_
        refine p_goto (pc := 133) (tgt := 85) C dX5_names_133 (by decide) ?_
        first
          | (rw [or_t (P := (fun v => nmP (cAt (ln s) (ce s)) i (los (ca k) v (rdN rg np (brg (kd k) (sg k)) (pt k) n.toNat)))) (v := v) (hPQ.mpr c_116)] at g6; exact ih (v + 1) _ _ (by omega) (by omega) g3 ⟨⟨p4, c4, mg_n (by omega) (mg_n (by omega) (mg_n (by omega) u54)), mg_n (by omega) (mg_n (by omega) (mg_n (by omega) u55)), uK⟩, fun z z0 z1 z2 z3 z4 => mg_n z2 (mg_n z1 (mg_n z0 (uo z z0 z1 z2 z3 z4)))⟩ ⟨x, y, mg_n (by omega) (mup_s _ _ _), mup_s _ _ _, hxy⟩ ⟨_, mg_n (by omega) (mg_n (by omega) (mup_s _ _ _)), fun p p0 p1 pk => by rw [fup_n _ _ _ pk]; exact g49a p p0 p1 pk⟩ (iOr_r _ _) g6)
          | (rw [or_f (P := (fun v => nmP (cAt (ln s) (ce s)) i (los (ca k) v (rdN rg np (brg (kd k) (sg k)) (pt k) n.toNat)))) (v := v) (fun z => c_116 (hPQ.mp z))] at g6; refine p_ls (by rw [iOr_0 g7]) ?_; exact ih (v + 1) _ _ (by omega) (by omega) g3 ⟨⟨p4, c4, mg_n (by omega) (mg_n (by omega) (mg_n (by omega) u54)), mg_n (by omega) (mg_n (by omega) (mg_n (by omega) u55)), uK⟩, fun z z0 z1 z2 z3 z4 => mg_n z2 (mg_n z1 (mg_n z0 (uo z z0 z1 z2 z3 z4)))⟩ ⟨x, y, mg_n (by omega) (mup_s _ _ _), mup_s _ _ _, hxy⟩ ⟨_, mg_n (by omega) (mg_n (by omega) (mup_s _ _ _)), fun p p0 p1 pk => by rw [fup_n _ _ _ pk]; exact g49a p p0 p1 pk⟩ g7 g6)
  refine p_aload_n (pc := 0) C dX5_names_0 rfl ?_
  refine p_iconst (pc := 1) C dX5_names_1 (by decide) ?_
  refine p_putL (pc := 2) (fs' := [_, _, _, _, _, _, _, _, _, _, _, _, _, _, _, _, _, _, _, _, _, _, _, _, _, _, _, _, _, _, _]) C fp_X5_61 dX5_names_2 ⟨by omega, by omega⟩ (by (repeat refine mg_n (by omega) ?_); first | assumption | exact mup_s _ _ _) (by exact Nat.le_of_ble_eq_true rfl) (by rfl) ?_
  try refine p_mem (mup_mup _ _ _ _) ?_
  refine p_iload_n (pc := 5) C dX5_names_5 rfl ?_
  refine p_callSF (pc := 6) C ln_X5_80 dX5_names_6 (k_X5_isSheet) rfl rfl (Nat.le_of_ble_eq_true rfl) ?_
  refine p_ifeq_b (pc := 9) (tgt := 21) C dX5_names_9 (by decide) (fun c_9 => ?_) (fun c_9 => ?_)
  · refine p_iconst (pc := 21) C dX5_names_21 (by decide) ?_
    refine p_iret (pc := 22) C dX5_names_22 ?_
    first
      | (exfalso; omega)
      | (refine ⟨fun q hq => by (repeat (refine mg_n (by omega) ?_)); rfl, ?_⟩; rw [if_pos (by omega)]; exact ⟨rfl, MV_42 hV (by omega)⟩)
      | (refine ⟨fun q hq => by (repeat (refine mg_n (by omega) ?_)); rfl, ?_⟩; rw [if_neg (by omega), if_pos (by omega)]; exact ⟨rfl, MV_42 hV (by omega)⟩)
      | (refine ⟨fun q hq => by (repeat (refine mg_n (by omega) ?_)); rfl, ?_⟩; rw [if_neg (by omega), if_neg (by omega), if_pos (by omega)]; exact ⟨rfl, MV_42 hV (by omega)⟩)
  · refine p_aload_n (pc := 12) C dX5_names_12 rfl ?_
    refine p_iload (pc := 13) C dX5_names_13 rfl ?_
    refine p_callVF (pc := 15) C ln_X5_127 dX5_names_15 (k_X5_isShip (by (repeat refine mg_n (by omega) ?_); first | assumption | exact mup_s _ _ _)) ⟨by omega, by omega⟩ (by (repeat refine mg_n (by omega) ?_); first | assumption | exact mup_s _ _ _) rfl rfl rfl rfl (Nat.le_of_ble_eq_true rfl) ?_
    refine p_ifne_b (pc := 18) (tgt := 23) C dX5_names_18 (by decide) (fun c_18 => ?_) (fun c_18 => ?_)
    · refine p_iload_n (pc := 23) C dX5_names_23 rfl ?_
      refine p_callSF (pc := 24) C ln_X5_84 dX5_names_24 (k_X5_isSort) rfl rfl (Nat.le_of_ble_eq_true rfl) ?_
      refine p_ifeq_b (pc := 27) (tgt := 41) C dX5_names_27 (by decide) (fun c_27 => ?_) (fun c_27 => ?_)
      · refine p_bipush (pc := 41) C dX5_names_41 (by decide) ?_
        refine p_iret (pc := 43) C dX5_names_43 ?_
        first
          | (exfalso; omega)
          | (refine ⟨fun q hq => by (repeat (refine mg_n (by omega) ?_)); rfl, ?_⟩; rw [if_pos (by omega)]; exact ⟨rfl, MV_42 hV (by omega)⟩)
          | (refine ⟨fun q hq => by (repeat (refine mg_n (by omega) ?_)); rfl, ?_⟩; rw [if_neg (by omega), if_pos (by omega)]; exact ⟨rfl, MV_42 hV (by omega)⟩)
          | (refine ⟨fun q hq => by (repeat (refine mg_n (by omega) ?_)); rfl, ?_⟩; rw [if_neg (by omega), if_neg (by omega), if_pos (by omega)]; exact ⟨rfl, MV_42 hV (by omega)⟩)
      · refine p_iload (pc := 30) C dX5_names_30 rfl ?_
        refine p_iconst (pc := 32) C dX5_names_32 (by decide) ?_
        refine p_bipush (pc := 33) C dX5_names_33 (by decide) ?_
        refine p_callSF (pc := 35) C ln_X5_67 dX5_names_35 (k_X5_within) rfl rfl (Nat.le_of_ble_eq_true rfl) ?_
        refine p_ifne_b (pc := 38) (tgt := 44) C dX5_names_38 (by decide) (fun c_38 => ?_) (fun c_38 => ?_)
        · refine p_aload_n (pc := 44) C dX5_names_44 rfl ?_
          refine p_iload_n (pc := 45) C dX5_names_45 rfl ?_
          refine p_iload_n (pc := 46) C dX5_names_46 rfl ?_
          refine p_iload_n (pc := 47) C dX5_names_47 rfl ?_
          refine p_iconst (pc := 48) C dX5_names_48 (by decide) ?_
          refine p_callVF (pc := 49) C ln_X5_87 dX5_names_49 (k_X5_against (by (repeat refine mg_n (by omega) ?_); first | assumption | exact mup_s _ _ _) (by (repeat refine mg_n (by omega) ?_); first | assumption | exact mup_s _ _ _) (by (repeat refine mg_n (by omega) ?_); first | assumption | exact mup_s _ _ _) (by omega) (fun hq => by have q3 := e43 s (by omega) (by omega); have q4 := e44 s (by omega) (by omega); obtain ⟨y1, y2, y3⟩ := w6 s (by omega) (by omega); omega)) ⟨by omega, by omega⟩ (by (repeat refine mg_n (by omega) ?_); first | assumption | exact mup_s _ _ _) rfl rfl rfl rfl (Nat.le_of_ble_eq_true rfl) ?_
          refine p_top (ag_fot (e43 s (by omega) (by omega)) (e44 s (by omega) (by omega)) (by omega) (w6 s (by omega) (by omega)).2.1 (w6 s (by omega) (by omega)).1) ?_
          have hfr := @fot_r (th s) (la s) (ln s) l i 4
          refine p_istore (pc := 52) (ls' := [(6, _), (0, _), (1, _), (2, _), (3, _), (4, _), (5, _)]) C dX5_names_52 (by decide) rfl ?_
          refine p_iload (pc := 54) C dX5_names_54 rfl ?_
          refine p_if_eq (pc := 56) (tgt := 66) C dX5_names_56 (by decide) (fun c_56 => ?_) (fun c_56 => ?_)
          · refine p_aload_n (pc := 66) C dX5_names_66 rfl ?_
            refine p_callVV (pc := 67) C ln_X5_177 dX5_names_67 (k_X5_keep (by (repeat refine mg_n (by omega) ?_); first | assumption | exact mup_s _ _ _) (by omega) (by (repeat refine mg_n (by omega) ?_); first | assumption | exact mup_s _ _ _) (by (repeat refine mg_n (by omega) ?_); first | assumption | exact mup_s _ _ _) (by (repeat refine mg_n (by omega) ?_); first | assumption | exact mup_s _ _ _) (by (repeat refine mg_n (by omega) ?_); first | assumption | exact mup_s _ _ _)) ⟨by omega, by omega⟩ (by (repeat refine mg_n (by omega) ?_); first | assumption | exact mup_s _ _ _) rfl rfl rfl rfl (Nat.le_of_ble_eq_true rfl) (fun μ' hpost => ?_)
            obtain ⟨x, y, rfl, hx, hy⟩ := hpost
            have hKP : KP ns (pt, ca, 0, 0, -9) (mup μ 42 (oM 0 tr np ns day at_ rP rS lp lw lf sL sF nr)) (mup (mup (mup μ 42 (oM 0 tr np ns day at_ rP rS lp lw lf sL sF nr)) 54 (mA 5 x)) 55 (mA 20 y)) := ⟨⟨x, y, mg_n (by omega) (mup_s _ _ _), mup_s _ _ _, MR_kp hMR hx hy⟩, fun z z0 z1 z2 z3 => mg_n z3 (mg_n z2 rfl)⟩
            refine p_aload_n (pc := 70) C dX5_names_70 rfl ?_
            refine p_get (pc := 71) C fl_X5_25 dX5_names_71 ⟨by omega, by omega⟩ (by (repeat refine mg_n (by omega) ?_); first | assumption | exact mup_s _ _ _) (by rfl) ?_
            refine p_iload (pc := 74) C dX5_names_74 rfl ?_
            refine p_iald (pc := 76) C dX5_names_76 ⟨by omega, by omega⟩ (by (repeat refine mg_n (by omega) ?_); first | assumption | exact mup_s _ _ _) (by omega) ?_
            refine p_istore (pc := 77) (ls' := [(7, _), (6, _), (0, _), (1, _), (2, _), (3, _), (4, _), (5, _)]) C dX5_names_77 (by decide) rfl ?_
            refine p_iconst (pc := 79) C dX5_names_79 (by decide) ?_
            refine p_istore (pc := 80) (ls' := [(8, _), (7, _), (6, _), (0, _), (1, _), (2, _), (3, _), (4, _), (5, _)]) C dX5_names_80 (by decide) rfl ?_
            refine p_iconst (pc := 82) C dX5_names_82 (by decide) ?_
            refine p_istore (pc := 83) (ls' := [(9, _), (8, _), (7, _), (6, _), (0, _), (1, _), (2, _), (3, _), (4, _), (5, _)]) C dX5_names_83 (by decide) rfl ?_
            refine p_pick [0, 1, 2, 4, 5, 6, 7, 8, 9] (ls' := [(9, _), (8, _), (7, _), (0, _), (1, _), (2, _), (3, _), (4, _), (5, _)]) rfl ?_
            exact L 4 0 0 _ (by omega) (by omega) (by omega) ⟨hKP.1, fun z z0 z1 z2 z3 z4 => hKP.2 z z1 z2 z3 z4⟩ ⟨pf, cf, mg_n (by omega) (mg_n (by omega) (mg_n (by omega) h50)), mg_n (by omega) (mg_n (by omega) (mg_n (by omega) h51)), hMR⟩ ⟨f48, mg_n (by omega) (mg_n (by omega) (mg_n (by omega) h48)), fun p p0 p1 _ => e48 p p0 p1⟩ (by decide) rfl
          · refine p_aload_n (pc := 59) C dX5_names_59 rfl ?_
            refine p_iload (pc := 60) C dX5_names_60 rfl ?_
            refine p_callVF (pc := 62) C ln_X5_91 dX5_names_62 (k_X5_fails (by omega) (by (repeat refine mg_n (by omega) ?_); first | assumption | exact mup_s _ _ _)) ⟨by omega, by omega⟩ (by (repeat refine mg_n (by omega) ?_); first | assumption | exact mup_s _ _ _) rfl rfl rfl rfl (Nat.le_of_ble_eq_true rfl) ?_
            refine p_mem (mup_mup _ _ _ _) ?_
            refine p_iret (pc := 65) C dX5_names_65 ?_
            first
              | (exfalso; omega)
              | (refine ⟨fun q hq => by (repeat (refine mg_n (by omega) ?_)); rfl, ?_⟩; rw [if_pos (by omega)]; exact ⟨rfl, MV_42 hV (by omega)⟩)
              | (refine ⟨fun q hq => by (repeat (refine mg_n (by omega) ?_)); rfl, ?_⟩; rw [if_neg (by omega), if_pos (by omega)]; exact ⟨rfl, MV_42 hV (by omega)⟩)
              | (refine ⟨fun q hq => by (repeat (refine mg_n (by omega) ?_)); rfl, ?_⟩; rw [if_neg (by omega), if_neg (by omega), if_pos (by omega)]; exact ⟨rfl, MV_42 hV (by omega)⟩)
        · refine p_bipush (pc := 41) C dX5_names_41 (by decide) ?_
          refine p_iret (pc := 43) C dX5_names_43 ?_
          first
            | (exfalso; omega)
            | (refine ⟨fun q hq => by (repeat (refine mg_n (by omega) ?_)); rfl, ?_⟩; rw [if_pos (by omega)]; exact ⟨rfl, MV_42 hV (by omega)⟩)
            | (refine ⟨fun q hq => by (repeat (refine mg_n (by omega) ?_)); rfl, ?_⟩; rw [if_neg (by omega), if_pos (by omega)]; exact ⟨rfl, MV_42 hV (by omega)⟩)
            | (refine ⟨fun q hq => by (repeat (refine mg_n (by omega) ?_)); rfl, ?_⟩; rw [if_neg (by omega), if_neg (by omega), if_pos (by omega)]; exact ⟨rfl, MV_42 hV (by omega)⟩)
    · refine p_iconst (pc := 21) C dX5_names_21 (by decide) ?_
      refine p_iret (pc := 22) C dX5_names_22 ?_
      first
        | (exfalso; omega)
        | (refine ⟨fun q hq => by (repeat (refine mg_n (by omega) ?_)); rfl, ?_⟩; rw [if_pos (by omega)]; exact ⟨rfl, MV_42 hV (by omega)⟩)
        | (refine ⟨fun q hq => by (repeat (refine mg_n (by omega) ?_)); rfl, ?_⟩; rw [if_neg (by omega), if_pos (by omega)]; exact ⟨rfl, MV_42 hV (by omega)⟩)
        | (refine ⟨fun q hq => by (repeat (refine mg_n (by omega) ?_)); rfl, ?_⟩; rw [if_neg (by omega), if_neg (by omega), if_pos (by omega)]; exact ⟨rfl, MV_42 hV (by omega)⟩)
