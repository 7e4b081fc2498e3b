theorem MR_st {np ns : Int} {rg kd nm sg : Int → Int} {S : DS} {pf cf : Int → Int} {k g : Int} (h : MR ns S pf cf) (h0 : 0 ≤ k) (h1 : k < ns) (hg : dsG rg kd nm sg k S = g) (hgr : g = -9 ∨ (0 ≤ g ∧ g < 4)) : MR ns (stS np rg kd nm sg k S) (fup pf k (nxp np (S.1 k))) (if g = -9 then cf else fup cf (4 * k + g) (cf (4 * k + g) - 1)) := by
  intro j j0 j1
  obtain ⟨a1, a2⟩ := h j j0 j1
  unfold stS
  dsimp only
  rw [hg]
  by_cases e : j = k
  · subst e
    rw [fup_s, fup_s, cup_s]
    refine ⟨rfl, fun x x0 x1 => ?_⟩
    unfold sdF
    split
    · exact a2 x x0 x1
    · have e2 := a2 g (by omega) (by omega)
      by_cases ex : x = g
      · subst ex; rw [fup_s, fup_s, e2]
      · rw [fup_n _ _ _ (by omega), fup_n _ _ _ ex]; exact a2 x x0 x1
  · rw [fup_n _ _ _ e, fup_n _ _ _ e, cup_n _ _ e]
    refine ⟨a1, fun x x0 x1 => ?_⟩
    split
    · exact a2 x x0 x1
    · rw [fup_n _ _ _ (by omega)]; exact a2 x x0 x1

set_option maxHeartbeats 4000000 in
set_option maxRecDepth 100000 in
theorem k_X5_goesOn {K : KX} {d : Nat} {μ : Int → ME} {k : Int} {S : DS} {fl tr np ns day at_ rP rS lp lw lf sL sF nr : Int} (h0 : μ 42 = oM fl tr np ns day at_ rP rS lp lw lf sL sF nr) (hnp : np ≤ 6) (hns : 0 ≤ ns ∧ ns ≤ 5) {rg kd nm sg : Int → Int} (hB : MB rg kd nm sg np ns μ) (hk : 0 ≤ k ∧ k < ns) {cf : Int → Int} (hC : μ 51 = mA 20 cf) {pf : Int → Int} (hP : μ 50 = mA 5 pf) (hR : MR ns S pf cf) (hW : WS np ns S) (hN : WN ns kd nm sg) : Ct K (d + 2) yX5_goesOn cX5_goesOn 3 (some .int) [vR 42, vI k] μ (pI (fun z μ' => z = dsG rg kd nm sg k S ∧ ∃ pf' cf' : Int → Int, μ' = mup (mup μ 51 (mA 20 cf')) 50 (mA 5 pf') ∧ MR ns (stS np rg kd nm sg k S) pf' cf')) := by
  refine Ct.of (by decide) (Nat.le_of_ble_eq_true rfl) (fun X C => ?_)
  obtain ⟨⟨rgf, B1, C1⟩, ⟨kf, B2, C2⟩, ⟨nf, B3, C3⟩, ⟨sf, B4, C4⟩⟩ := id hB
  obtain ⟨n1, n2, n3⟩ := hN k hk.1 hk.2
  obtain ⟨w1, w2⟩ := hW k hk.1 hk.2
  obtain ⟨r1, r2⟩ := hR k hk.1 hk.2
  have q1 : rgf (pf k) = rg (S.1 k) := by rw [r1]; exact C1 (S.1 k) w1.1 w1.2
  have hgc : gtg (fun g => cf (4 * k + g)) (nm k) = gtg (S.2.1 k) (nm k) := gtg_c (fun j j0 j1 => r2 j j0 j1) n2
  have hds : dsG rg kd nm sg k S = (if brg (kd k) (sg k) < rg (S.1 k) then gtg (S.2.1 k) (nm k) else -9) := rfl
  have hgr := gtg_r w2 n2
  have hmr := MR_st (np := np) (rg := rg) (kd := kd) (nm := nm) (sg := sg) hR hk.1 hk.2 rfl ((sdG_r (rg := rg) (kd := kd k) (sg := sg k) (pt := S.1 k) w2 n2).elim Or.inl (fun h => Or.inr h.1))
  have hnx : nxp np (S.1 k) = (if S.1 k + 1 < np then S.1 k + 1 else 0) := rfl
  refine p_aload_n (pc := 0) C dX5_goesOn_0 rfl ?_
  refine p_get (pc := 1) C fl_X5_19 dX5_goesOn_1 ⟨by omega, by omega⟩ (by (repeat refine mg_n (by omega) ?_); first | assumption | exact mup_s _ _ _) (by rfl) ?_
  refine p_aload_n (pc := 4) C dX5_goesOn_4 rfl ?_
  refine p_get (pc := 5) C fl_X5_31 dX5_goesOn_5 ⟨by omega, by omega⟩ (by (repeat refine mg_n (by omega) ?_); first | assumption | exact mup_s _ _ _) (by rfl) ?_
  refine p_iload_n (pc := 8) C dX5_goesOn_8 rfl ?_
  refine p_iald (pc := 9) C dX5_goesOn_9 ⟨by omega, by omega⟩ (by (repeat refine mg_n (by omega) ?_); first | assumption | exact mup_s _ _ _) (by omega) ?_
  refine p_iald (pc := 10) C dX5_goesOn_10 ⟨by omega, by omega⟩ (by (repeat refine mg_n (by omega) ?_); first | assumption | exact mup_s _ _ _) (by omega) ?_
  refine p_aload_n (pc := 11) C dX5_goesOn_11 rfl ?_
  refine p_iload_n (pc := 12) C dX5_goesOn_12 rfl ?_
  refine p_callVF (pc := 13) C ln_X5_130 dX5_goesOn_13 (k_X5_bearsOf h0 hnp hns hB hk hN) ⟨by omega, by omega⟩ (by (repeat refine mg_n (by omega) ?_); first | assumption | exact mup_s _ _ _) rfl rfl rfl rfl (Nat.le_of_ble_eq_true rfl) ?_
  refine p_icmp_le (pc := 16) (tgt := 27) C dX5_goesOn_16 (by decide) (fun c_16 => ?_) (fun c_16 => ?_)
  · refine p_bipush (pc := 27) C dX5_goesOn_27 (by decide) ?_
    refine p_istore_n (pc := 29) (ls' := [(2, _), (0, _), (1, _)]) C dX5_goesOn_29 (by decide) rfl ?_
    refine p_iload_n (pc := 30) C dX5_goesOn_30 rfl ?_
    refine p_bipush (pc := 31) C dX5_goesOn_31 (by decide) ?_
    refine p_icmp_eq (pc := 33) (tgt := 50) C dX5_goesOn_33 (by decide) (fun c_33 => ?_) (fun h => absurd h (by decide))
    refine p_aload_n (pc := 50) C dX5_goesOn_50 rfl ?_
    refine p_get (pc := 51) C fl_X5_31 dX5_goesOn_51 ⟨by omega, by omega⟩ (by (repeat refine mg_n (by omega) ?_); first | assumption | exact mup_s _ _ _) (by rfl) ?_
    refine p_iload_n (pc := 54) C dX5_goesOn_54 rfl ?_
    refine p_aload_n (pc := 55) C dX5_goesOn_55 rfl ?_
    refine p_get (pc := 56) C fl_X5_31 dX5_goesOn_56 ⟨by omega, by omega⟩ (by (repeat refine mg_n (by omega) ?_); first | assumption | exact mup_s _ _ _) (by rfl) ?_
    refine p_iload_n (pc := 59) C dX5_goesOn_59 rfl ?_
    refine p_iald (pc := 60) C dX5_goesOn_60 ⟨by omega, by omega⟩ (by (repeat refine mg_n (by omega) ?_); first | assumption | exact mup_s _ _ _) (by omega) ?_
    refine p_iconst (pc := 61) C dX5_goesOn_61 (by decide) ?_
    refine p_iadd (pc := 62) C dX5_goesOn_62 ⟨by omega, by omega⟩ ?_
    refine p_aload_n (pc := 63) C dX5_goesOn_63 rfl ?_
    refine p_get (pc := 64) C fl_X5_74 dX5_goesOn_64 ⟨by omega, by omega⟩ (by (repeat refine mg_n (by omega) ?_); first | assumption | exact mup_s _ _ _) (by rfl) ?_
    refine p_icmp_ne (pc := 67) (tgt := 74) C dX5_goesOn_67 (by decide) (fun c_67 => ?_) (fun c_67 => ?_)
    · refine p_aload_n (pc := 74) C dX5_goesOn_74 rfl ?_
      refine p_get (pc := 75) C fl_X5_31 dX5_goesOn_75 ⟨by omega, by omega⟩ (by (repeat refine mg_n (by omega) ?_); first | assumption | exact mup_s _ _ _) (by rfl) ?_
      refine p_iload_n (pc := 78) C dX5_goesOn_78 rfl ?_
      refine p_iald (pc := 79) C dX5_goesOn_79 ⟨by omega, by omega⟩ (by (repeat refine mg_n (by omega) ?_); first | assumption | exact mup_s _ _ _) (by omega) ?_
      refine p_iconst (pc := 80) C dX5_goesOn_80 (by decide) ?_
      refine p_iadd (pc := 81) C dX5_goesOn_81 ⟨by omega, by omega⟩ ?_
      refine p_iast (pc := 82) C dX5_goesOn_82 ⟨by omega, by omega⟩ (by (repeat refine mg_n (by omega) ?_); first | assumption | exact mup_s _ _ _) (by omega) ?_
      try refine p_mem (mup_mup _ _ _ _) ?_
      refine p_iload_n (pc := 83) C dX5_goesOn_83 rfl ?_
      refine p_iret (pc := 84) C dX5_goesOn_84 ?_
      first
        | (have e : dsG rg kd nm sg k S = gtg (S.2.1 k) (nm k) := hds.trans (if_pos (by omega))
           refine ⟨_, rfl, by omega, _, _, ?_, hmr⟩
           rw [e, if_neg (by omega), hnx, hgc]
           first | rw [if_neg (by omega)] | rw [if_pos (by omega), r1])
        | (have e : dsG rg kd nm sg k S = -9 := (hds.trans (if_pos (by omega))).trans (by omega)
           refine ⟨_, rfl, by omega, _, _, ?_, hmr⟩
           rw [e, if_pos rfl, hnx, mup_id hC]
           first | rw [if_neg (by omega)] | rw [if_pos (by omega), r1])
        | (have e : dsG rg kd nm sg k S = -9 := hds.trans (if_neg (by omega))
           refine ⟨_, rfl, by omega, _, _, ?_, hmr⟩
           rw [e, if_pos rfl, hnx, mup_id hC]
           first | rw [if_neg (by omega)] | rw [if_pos (by omega), r1])
    · refine p_iconst (pc := 70) C dX5_goesOn_70 (by decide) ?_
      refine p_goto (pc := 71) (tgt := 82) C dX5_goesOn_71 (by decide) ?_
      refine p_iast (pc := 82) C dX5_goesOn_82 ⟨by omega, by omega⟩ (by (repeat refine mg_n (by omega) ?_); first | assumption | exact mup_s _ _ _) (by omega) ?_
      try refine p_mem (mup_mup _ _ _ _) ?_
      refine p_iload_n (pc := 83) C dX5_goesOn_83 rfl ?_
      refine p_iret (pc := 84) C dX5_goesOn_84 ?_
      first
        | (have e : dsG rg kd nm sg k S = gtg (S.2.1 k) (nm k) := hds.trans (if_pos (by omega))
           refine ⟨_, rfl, by omega, _, _, ?_, hmr⟩
           rw [e, if_neg (by omega), hnx, hgc]
           first | rw [if_neg (by omega)] | rw [if_pos (by omega), r1])
        | (have e : dsG rg kd nm sg k S = -9 := (hds.trans (if_pos (by omega))).trans (by omega)
           refine ⟨_, rfl, by omega, _, _, ?_, hmr⟩
           rw [e, if_pos rfl, hnx, mup_id hC]
           first | rw [if_neg (by omega)] | rw [if_pos (by omega), r1])
        | (have e : dsG rg kd nm sg k S = -9 := hds.trans (if_neg (by omega))
           refine ⟨_, rfl, by omega, _, _, ?_, hmr⟩
           rw [e, if_pos rfl, hnx, mup_id hC]
           first | rw [if_neg (by omega)] | rw [if_pos (by omega), r1])
  · refine p_aload_n (pc := 19) C dX5_goesOn_19 rfl ?_
    refine p_iload_n (pc := 20) C dX5_goesOn_20 rfl ?_
    refine p_callVF (pc := 21) C ln_X5_151 dX5_goesOn_21 (k_X5_wouldLose h0 hnp hns hB hk hC hN) ⟨by omega, by omega⟩ (by (repeat refine mg_n (by omega) ?_); first | assumption | exact mup_s _ _ _) rfl rfl rfl rfl (Nat.le_of_ble_eq_true rfl) ?_
    refine p_goto (pc := 24) (tgt := 29) C dX5_goesOn_24 (by decide) ?_
    refine p_istore_n (pc := 29) (ls' := [(2, _), (0, _), (1, _)]) C dX5_goesOn_29 (by decide) rfl ?_
    refine p_iload_n (pc := 30) C dX5_goesOn_30 rfl ?_
    refine p_bipush (pc := 31) C dX5_goesOn_31 (by decide) ?_
    refine p_icmp_eq (pc := 33) (tgt := 50) C dX5_goesOn_33 (by decide) (fun c_33 => ?_) (fun c_33 => ?_)
    · refine p_aload_n (pc := 50) C dX5_goesOn_50 rfl ?_
      refine p_get (pc := 51) C fl_X5_31 dX5_goesOn_51 ⟨by omega, by omega⟩ (by (repeat refine mg_n (by omega) ?_); first | assumption | exact mup_s _ _ _) (by rfl) ?_
      refine p_iload_n (pc := 54) C dX5_goesOn_54 rfl ?_
      refine p_aload_n (pc := 55) C dX5_goesOn_55 rfl ?_
      refine p_get (pc := 56) C fl_X5_31 dX5_goesOn_56 ⟨by omega, by omega⟩ (by (repeat refine mg_n (by omega) ?_); first | assumption | exact mup_s _ _ _) (by rfl) ?_
      refine p_iload_n (pc := 59) C dX5_goesOn_59 rfl ?_
      refine p_iald (pc := 60) C dX5_goesOn_60 ⟨by omega, by omega⟩ (by (repeat refine mg_n (by omega) ?_); first | assumption | exact mup_s _ _ _) (by omega) ?_
      refine p_iconst (pc := 61) C dX5_goesOn_61 (by decide) ?_
      refine p_iadd (pc := 62) C dX5_goesOn_62 ⟨by omega, by omega⟩ ?_
      refine p_aload_n (pc := 63) C dX5_goesOn_63 rfl ?_
      refine p_get (pc := 64) C fl_X5_74 dX5_goesOn_64 ⟨by omega, by omega⟩ (by (repeat refine mg_n (by omega) ?_); first | assumption | exact mup_s _ _ _) (by rfl) ?_
      refine p_icmp_ne (pc := 67) (tgt := 74) C dX5_goesOn_67 (by decide) (fun c_67 => ?_) (fun c_67 => ?_)
      · refine p_aload_n (pc := 74) C dX5_goesOn_74 rfl ?_
        refine p_get (pc := 75) C fl_X5_31 dX5_goesOn_75 ⟨by omega, by omega⟩ (by (repeat refine mg_n (by omega) ?_); first | assumption | exact mup_s _ _ _) (by rfl) ?_
        refine p_iload_n (pc := 78) C dX5_goesOn_78 rfl ?_
        refine p_iald (pc := 79) C dX5_goesOn_79 ⟨by omega, by omega⟩ (by (repeat refine mg_n (by omega) ?_); first | assumption | exact mup_s _ _ _) (by omega) ?_
        refine p_iconst (pc := 80) C dX5_goesOn_80 (by decide) ?_
        refine p_iadd (pc := 81) C dX5_goesOn_81 ⟨by omega, by omega⟩ ?_
        refine p_iast (pc := 82) C dX5_goesOn_82 ⟨by omega, by omega⟩ (by (repeat refine mg_n (by omega) ?_); first | assumption | exact mup_s _ _ _) (by omega) ?_
        try refine p_mem (mup_mup _ _ _ _) ?_
        refine p_iload_n (pc := 83) C dX5_goesOn_83 rfl ?_
        refine p_iret (pc := 84) C dX5_goesOn_84 ?_
        first
          | (have e : dsG rg kd nm sg k S = gtg (S.2.1 k) (nm k) := hds.trans (if_pos (by omega))
             refine ⟨_, rfl, by omega, _, _, ?_, hmr⟩
             rw [e, if_neg (by omega), hnx, hgc]
             first | rw [if_neg (by omega)] | rw [if_pos (by omega), r1])
          | (have e : dsG rg kd nm sg k S = -9 := (hds.trans (if_pos (by omega))).trans (by omega)
             refine ⟨_, rfl, by omega, _, _, ?_, hmr⟩
             rw [e, if_pos rfl, hnx, mup_id hC]
             first | rw [if_neg (by omega)] | rw [if_pos (by omega), r1])
          | (have e : dsG rg kd nm sg k S = -9 := hds.trans (if_neg (by omega))
             refine ⟨_, rfl, by omega, _, _, ?_, hmr⟩
             rw [e, if_pos rfl, hnx, mup_id hC]
             first | rw [if_neg (by omega)] | rw [if_pos (by omega), r1])
      · refine p_iconst (pc := 70) C dX5_goesOn_70 (by decide) ?_
        refine p_goto (pc := 71) (tgt := 82) C dX5_goesOn_71 (by decide) ?_
        refine p_iast (pc := 82) C dX5_goesOn_82 ⟨by omega, by omega⟩ (by (repeat refine mg_n (by omega) ?_); first | assumption | exact mup_s _ _ _) (by omega) ?_
        try refine p_mem (mup_mup _ _ _ _) ?_
        refine p_iload_n (pc := 83) C dX5_goesOn_83 rfl ?_
        refine p_iret (pc := 84) C dX5_goesOn_84 ?_
        first
          | (have e : dsG rg kd nm sg k S = gtg (S.2.1 k) (nm k) := hds.trans (if_pos (by omega))
             refine ⟨_, rfl, by omega, _, _, ?_, hmr⟩
             rw [e, if_neg (by omega), hnx, hgc]
             first | rw [if_neg (by omega)] | rw [if_pos (by omega), r1])
          | (have e : dsG rg kd nm sg k S = -9 := (hds.trans (if_pos (by omega))).trans (by omega)
             refine ⟨_, rfl, by omega, _, _, ?_, hmr⟩
             rw [e, if_pos rfl, hnx, mup_id hC]
             first | rw [if_neg (by omega)] | rw [if_pos (by omega), r1])
          | (have e : dsG rg kd nm sg k S = -9 := hds.trans (if_neg (by omega))
             refine ⟨_, rfl, by omega, _, _, ?_, hmr⟩
             rw [e, if_pos rfl, hnx, mup_id hC]
             first | rw [if_neg (by omega)] | rw [if_pos (by omega), r1])
    · have hg4 : 0 ≤ gtg (S.2.1 k) (nm k) ∧ gtg (S.2.1 k) (nm k) < 4 := by omega
      have hcg := r2 _ hg4.1 hg4.2
      rw [← hgc] at hcg
      have hwg := w2.at hg4.1 hg4.2
      rw [← hgc] at hwg
      refine p_aload_n (pc := 36) C dX5_goesOn_36 rfl ?_
      refine p_get (pc := 37) C fl_X5_34 dX5_goesOn_37 ⟨by omega, by omega⟩ (by (repeat refine mg_n (by omega) ?_); first | assumption | exact mup_s _ _ _) (by rfl) ?_
      refine p_iconst (pc := 40) C dX5_goesOn_40 (by decide) ?_
      refine p_iload_n (pc := 41) C dX5_goesOn_41 rfl ?_
      refine p_imul (pc := 42) C dX5_goesOn_42 ⟨by omega, by omega⟩ ?_
      refine p_iload_n (pc := 43) C dX5_goesOn_43 rfl ?_
      refine p_iadd (pc := 44) C dX5_goesOn_44 ⟨by omega, by omega⟩ ?_
      refine p_dup2 (pc := 45) C dX5_goesOn_45 rfl rfl ?_
      refine p_iald (pc := 46) C dX5_goesOn_46 ⟨by omega, by omega⟩ (by (repeat refine mg_n (by omega) ?_); first | assumption | exact mup_s _ _ _) (by omega) ?_
      refine p_iconst (pc := 47) C dX5_goesOn_47 (by decide) ?_
      refine p_isub (pc := 48) C dX5_goesOn_48 ⟨by omega, by omega⟩ ?_
      refine p_iast (pc := 49) C dX5_goesOn_49 ⟨by omega, by omega⟩ (by (repeat refine mg_n (by omega) ?_); first | assumption | exact mup_s _ _ _) (by omega) ?_
      try refine p_mem (mup_mup _ _ _ _) ?_
      refine p_aload_n (pc := 50) C dX5_goesOn_50 rfl ?_
      refine p_get (pc := 51) C fl_X5_31 dX5_goesOn_51 ⟨by omega, by omega⟩ (by (repeat refine mg_n (by omega) ?_); first | assumption | exact mup_s _ _ _) (by rfl) ?_
      refine p_iload_n (pc := 54) C dX5_goesOn_54 rfl ?_
      refine p_aload_n (pc := 55) C dX5_goesOn_55 rfl ?_
      refine p_get (pc := 56) C fl_X5_31 dX5_goesOn_56 ⟨by omega, by omega⟩ (by (repeat refine mg_n (by omega) ?_); first | assumption | exact mup_s _ _ _) (by rfl) ?_
      refine p_iload_n (pc := 59) C dX5_goesOn_59 rfl ?_
      refine p_iald (pc := 60) C dX5_goesOn_60 ⟨by omega, by omega⟩ (by (repeat refine mg_n (by omega) ?_); first | assumption | exact mup_s _ _ _) (by omega) ?_
      refine p_iconst (pc := 61) C dX5_goesOn_61 (by decide) ?_
      refine p_iadd (pc := 62) C dX5_goesOn_62 ⟨by omega, by omega⟩ ?_
      refine p_aload_n (pc := 63) C dX5_goesOn_63 rfl ?_
      refine p_get (pc := 64) C fl_X5_74 dX5_goesOn_64 ⟨by omega, by omega⟩ (by (repeat refine mg_n (by omega) ?_); first | assumption | exact mup_s _ _ _) (by rfl) ?_
      refine p_icmp_ne (pc := 67) (tgt := 74) C dX5_goesOn_67 (by decide) (fun c_67 => ?_) (fun c_67 => ?_)
      · refine p_aload_n (pc := 74) C dX5_goesOn_74 rfl ?_
        refine p_get (pc := 75) C fl_X5_31 dX5_goesOn_75 ⟨by omega, by omega⟩ (by (repeat refine mg_n (by omega) ?_); first | assumption | exact mup_s _ _ _) (by rfl) ?_
        refine p_iload_n (pc := 78) C dX5_goesOn_78 rfl ?_
        refine p_iald (pc := 79) C dX5_goesOn_79 ⟨by omega, by omega⟩ (by (repeat refine mg_n (by omega) ?_); first | assumption | exact mup_s _ _ _) (by omega) ?_
        refine p_iconst (pc := 80) C dX5_goesOn_80 (by decide) ?_
        refine p_iadd (pc := 81) C dX5_goesOn_81 ⟨by omega, by omega⟩ ?_
        refine p_iast (pc := 82) C dX5_goesOn_82 ⟨by omega, by omega⟩ (by (repeat refine mg_n (by omega) ?_); first | assumption | exact mup_s _ _ _) (by omega) ?_
        try refine p_mem (mup_mup _ _ _ _) ?_
        refine p_iload_n (pc := 83) C dX5_goesOn_83 rfl ?_
        refine p_iret (pc := 84) C dX5_goesOn_84 ?_
        first
          | (have e : dsG rg kd nm sg k S = gtg (S.2.1 k) (nm k) := hds.trans (if_pos (by omega))
             refine ⟨_, rfl, by omega, _, _, ?_, hmr⟩
             rw [e, if_neg (by omega), hnx, hgc]
             first | rw [if_neg (by omega)] | rw [if_pos (by omega), r1])
          | (have e : dsG rg kd nm sg k S = -9 := (hds.trans (if_pos (by omega))).trans (by omega)
             refine ⟨_, rfl, by omega, _, _, ?_, hmr⟩
             rw [e, if_pos rfl, hnx, mup_id hC]
             first | rw [if_neg (by omega)] | rw [if_pos (by omega), r1])
          | (have e : dsG rg kd nm sg k S = -9 := hds.trans (if_neg (by omega))
             refine ⟨_, rfl, by omega, _, _, ?_, hmr⟩
             rw [e, if_pos rfl, hnx, mup_id hC]
             first | rw [if_neg (by omega)] | rw [if_pos (by omega), r1])
      · refine p_iconst (pc := 70) C dX5_goesOn_70 (by decide) ?_
        refine p_goto (pc := 71) (tgt := 82) C dX5_goesOn_71 (by decide) ?_
        refine p_iast (pc := 82) C dX5_goesOn_82 ⟨by omega, by omega⟩ (by (repeat refine mg_n (by omega) ?_); first | assumption | exact mup_s _ _ _) (by omega) ?_
        try refine p_mem (mup_mup _ _ _ _) ?_
        refine p_iload_n (pc := 83) C dX5_goesOn_83 rfl ?_
        refine p_iret (pc := 84) C dX5_goesOn_84 ?_
        first
          | (have e : dsG rg kd nm sg k S = gtg (S.2.1 k) (nm k) := hds.trans (if_pos (by omega))
             refine ⟨_, rfl, by omega, _, _, ?_, hmr⟩
             rw [e, if_neg (by omega), hnx, hgc]
             first | rw [if_neg (by omega)] | rw [if_pos (by omega), r1])
          | (have e : dsG rg kd nm sg k S = -9 := (hds.trans (if_pos (by omega))).trans (by omega)
             refine ⟨_, rfl, by omega, _, _, ?_, hmr⟩
             rw [e, if_pos rfl, hnx, mup_id hC]
             first | rw [if_neg (by omega)] | rw [if_pos (by omega), r1])
          | (have e : dsG rg kd nm sg k S = -9 := hds.trans (if_neg (by omega))
             refine ⟨_, rfl, by omega, _, _, ?_, hmr⟩
             rw [e, if_pos rfl, hnx, mup_id hC]
             first | rw [if_neg (by omega)] | rw [if_pos (by omega), r1])

def itS (np : Int) (rg kd nm sg : Int → Int) (k : Int) (S : DS) : Nat → DS
  | 0 => S
  | t + 1 => itS np rg kd nm sg k (stS np rg kd nm sg k S) t
theorem WS_it {np ns : Int} {rg kd nm sg : Int → Int} {k : Int} (hN : WN ns kd nm sg) (h0 : 0 ≤ k) (h1 : k < ns) : ∀ (t : Nat) (S : DS), WS np ns S → WS np ns (itS np rg kd nm sg k S t) ∧ (S.2.2.2.1 ≤ (itS np rg kd nm sg k S t).2.2.2.1 ∧ (itS np rg kd nm sg k S t).2.2.2.1 ≤ S.2.2.2.1 + 4 * (t : Int))
  | 0, S, h => by rw [itS]; exact ⟨h, by omega, by omega⟩
  | t + 1, S, h => by
    rw [itS]
    have a := WS_it (np := np) (rg := rg) hN h0 h1 t _ (WS_st (rg := rg) h hN h0 h1)
    have b := ct_st (np := np) (rg := rg) (kd := kd) (sg := sg) (h k h0 h1).2 (hN k h0 h1).2.1
    exact ⟨a.1, by push_cast; omega⟩

theorem MB_2 {rg kd nm sg : Int → Int} {np ns : Int} {μ : Int → ME} (h : MB rg kd nm sg np ns μ) (o o' : ME) : MB rg kd nm sg np ns (mup (mup μ 51 o) 50 o') := by
  obtain ⟨⟨f1, a1, b1⟩, ⟨f2, a2, b2⟩, ⟨f3, a3, b3⟩, ⟨f4, a4, b4⟩⟩ := h
  exact ⟨⟨f1, mg_n (by omega) (mg_n (by omega) a1), b1⟩, ⟨f2, mg_n (by omega) (mg_n (by omega) a2), b2⟩, ⟨f3, mg_n (by omega) (mg_n (by omega) a3), b3⟩, ⟨f4, mg_n (by omega) (mg_n (by omega) a4), b4⟩⟩
theorem mup_55 (μ : Int → ME) (a b c e : ME) : mup (mup (mup (mup μ 51 a) 50 b) 51 c) 50 e = mup (mup μ 51 c) 50 e := by
  rw [mup_comm (mup μ 51 a) b c (show (50 : Int) ≠ 51 by omega), mup_mup, mup_mup]

set_option maxHeartbeats 4000000 in
set_option maxRecDepth 100000 in
theorem k_X5_losesIn {K : KX} {d : Nat} {μ : Int → ME} {k n : Int} {S : DS} {fl tr np ns day at_ rP rS lp lw lf sL sF nr : Int} (h0 : μ 42 = oM fl tr np ns day at_ rP rS lp lw lf sL sF nr) (hnp : np ≤ 6) (hns : 0 ≤ ns ∧ ns ≤ 5) {rg kd nm sg : Int → Int} (hB : MB rg kd nm sg np ns μ) (hk : 0 ≤ k ∧ k < ns) {cf : Int → Int} (hC : μ 51 = mA 20 cf) {pf : Int → Int} (hP : μ 50 = mA 5 pf) (hR : MR ns S pf cf) (hW : WS np ns S) (hN : WN ns kd nm sg) (hn : 0 ≤ n ∧ n ≤ 1000) (hl : 0 ≤ S.2.2.2.1 ∧ S.2.2.2.1 ≤ 1000) : Ct K (d + 3) yX5_losesIn cX5_losesIn 6 (some .int) [vR 42, vI k, vI n] μ (pI (fun z μ' => z = (itS np rg kd nm sg k S n.toNat).2.2.2.1 - S.2.2.2.1 ∧ ∃ pf' cf' : Int → Int, μ' = mup (mup μ 51 (mA 20 cf')) 50 (mA 5 pf') ∧ MR ns (itS np rg kd nm sg k S n.toNat) pf' cf')) := by
  refine Ct.of (by decide) (Nat.le_of_ble_eq_true rfl) (fun X C => ?_)
  have L : ∀ (t : Nat) (i w : Int) (S1 : DS) (pf cf : Int → Int), 0 ≤ i → n - i = (t : Int) → MR ns S1 pf cf → WS np ns S1 → w = S1.2.2.2.1 - S.2.2.2.1 → (0 ≤ w ∧ w ≤ 100000 - 4 * (t : Int)) → itS np rg kd nm sg k S1 t = itS np rg kd nm sg k S n.toNat → PW K X 6 (QM K X (pI (fun z μ' => z = (itS np rg kd nm sg k S n.toNat).2.2.2.1 - S.2.2.2.1 ∧ ∃ pf' cf' : Int → Int, μ' = mup (mup μ 51 (mA 20 cf')) 50 (mA 5 pf') ∧ MR ns (itS np rg kd nm sg k S n.toNat) pf' cf'))) 5 [(4, vI i), (3, vI w), (0, vR 42), (1, vI k), (2, vI n)] [] (mup (mup μ 51 (mA 20 cf)) 50 (mA 5 pf)) := by
    intro t
    induction t with
    | zero =>
      intro i w S1 pf cf g1 g2 g4 g5 g6 g7 g8
      rw [itS] at g8
      refine p_iload (pc := 5) C dX5_losesIn_5 rfl ?_
      refine p_iload_n (pc := 7) C dX5_losesIn_7 rfl ?_
      refine p_icmp_ge (pc := 8) (tgt := 42) C dX5_losesIn_8 (by decide) (fun c_8 => ?_) (fun h => by exfalso; omega)
      refine p_iload_n (pc := 42) C dX5_losesIn_42 rfl ?_
      refine p_iret (pc := 43) C dX5_losesIn_43 ?_
      exact ⟨_, rfl, by rw [← g8]; exact g6, _, _, rfl, by rw [← g8]; exact g4⟩
    | succ t ih =>
      intro i w S1 pf cf g1 g2 g4 g5 g6 g7 g8
      rw [itS] at g8
      have hct := ct_st (np := np) (rg := rg) (kd := kd) (sg := sg) (g5 k hk.1 hk.2).2 (hN k hk.1 hk.2).2.1
      have hlw : (stS np rg kd nm sg k S1).2.2.2.1 = S1.2.2.2.1 + (if dsG rg kd nm sg k S1 = -9 then 0 else dsG rg kd nm sg k S1 + 1) := rfl
      refine p_iload (pc := 5) C dX5_losesIn_5 rfl ?_
      refine p_iload_n (pc := 7) C dX5_losesIn_7 rfl ?_
      refine p_icmp_ge (pc := 8) (tgt := 42) C dX5_losesIn_8 (by decide) (fun h => by exfalso; omega) (fun c_8 => ?_)
      refine p_aload_n (pc := 11) C dX5_losesIn_11 rfl ?_
      refine p_iload_n (pc := 12) C dX5_losesIn_12 rfl ?_
      refine p_callVI (pc := 13) C ln_X5_154 dX5_losesIn_13 (k_X5_goesOn (S := S1) (mg_n (by omega) (mg_n (by omega) h0)) hnp hns (MB_2 hB _ _) hk (mg_n (by omega) (mup_s _ _ _)) (mup_s _ _ _) g4 g5 hN) ⟨by omega, by omega⟩ (by (repeat refine mg_n (by omega) ?_); first | assumption | exact mup_s _ _ _) rfl rfl rfl rfl (Nat.le_of_ble_eq_true rfl) (fun z μ' hpost => ?_)
      obtain ⟨hz, pf', cf', rfl, hmr⟩ := hpost
      subst hz
      refine p_mem (mup_55 _ _ _ _ _) ?_
      refine p_istore (pc := 16) (ls' := [(5, _), (4, _), (3, _), (0, _), (1, _), (2, _)]) C dX5_losesIn_16 (by decide) rfl ?_
      refine p_iload_n (pc := 18) C dX5_losesIn_18 rfl ?_
      refine p_iload (pc := 19) C dX5_losesIn_19 rfl ?_
      refine p_bipush (pc := 21) C dX5_losesIn_21 (by decide) ?_
      refine p_icmp_ne (pc := 23) (tgt := 30) C dX5_losesIn_23 (by decide) (fun c_23 => ?_) (fun c_23 => ?_)
      · refine p_iload (pc := 30) C dX5_losesIn_30 rfl ?_
        refine p_iconst (pc := 32) C dX5_losesIn_32 (by decide) ?_
        refine p_iadd (pc := 33) C dX5_losesIn_33 ⟨by omega, by omega⟩ ?_
        refine p_iadd (pc := 34) C dX5_losesIn_34 ⟨by omega, by omega⟩ ?_
        refine p_istore_n (pc := 35) (ls' := [(3, _), (5, _), (4, _), (0, _), (1, _), (2, _)]) C dX5_losesIn_35 (by decide) rfl ?_
        refine p_iinc (pc := 36) (ls' := [(4, _), (3, _), (5, _), (0, _), (1, _), (2, _)]) C dX5_losesIn_36 (by decide) rfl ⟨by omega, by omega⟩ rfl ?_
        refine p_goto (pc := 39) (tgt := 5) C dX5_losesIn_39 (by decide) ?_
        refine p_pick [0, 1, 3, 4, 5] (ls' := [(4, _), (3, _), (0, _), (1, _), (2, _)]) rfl ?_
        exact ih (i + 1) _ (stS np rg kd nm sg k S1) _ _ (by omega) (by omega) hmr (WS_st g5 hN hk.1 hk.2) (by omega) (by omega) g8
      · refine p_iconst (pc := 26) C dX5_losesIn_26 (by decide) ?_
        refine p_goto (pc := 27) (tgt := 34) C dX5_losesIn_27 (by decide) ?_
        refine p_iadd (pc := 34) C dX5_losesIn_34 ⟨by omega, by omega⟩ ?_
        refine p_istore_n (pc := 35) (ls' := [(3, _), (5, _), (4, _), (0, _), (1, _), (2, _)]) C dX5_losesIn_35 (by decide) rfl ?_
        refine p_iinc (pc := 36) (ls' := [(4, _), (3, _), (5, _), (0, _), (1, _), (2, _)]) C dX5_losesIn_36 (by decide) rfl ⟨by omega, by omega⟩ rfl ?_
        refine p_goto (pc := 39) (tgt := 5) C dX5_losesIn_39 (by decide) ?_
        refine p_pick [0, 1, 3, 4, 5] (ls' := [(4, _), (3, _), (0, _), (1, _), (2, _)]) rfl ?_
        exact ih (i + 1) _ (stS np rg kd nm sg k S1) _ _ (by omega) (by omega) hmr (WS_st g5 hN hk.1 hk.2) (by omega) (by omega) g8
  refine p_iconst (pc := 0) C dX5_losesIn_0 (by decide) ?_
  refine p_istore_n (pc := 1) (ls' := [(3, _), (0, _), (1, _), (2, _)]) C dX5_losesIn_1 (by decide) rfl ?_
  refine p_iconst (pc := 2) C dX5_losesIn_2 (by decide) ?_
  refine p_istore (pc := 3) (ls' := [(4, _), (3, _), (0, _), (1, _), (2, _)]) C dX5_losesIn_3 (by decide) rfl ?_
  refine p_mem (by rw [mup_id hC, mup_id hP]) (L n.toNat 0 0 S pf cf (by omega) (by omega) hR hW (by omega) (by omega) rfl)
