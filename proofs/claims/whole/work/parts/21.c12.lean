theorem Ct.ofU {K : KX} {d maxL : Nat} {ret : Option FieldType} {μ : Int → ME} {y : MethodName} {bytes : ByteArray} {av : List PV} {Post : Option PV → (Int → ME) → Prop} (hy : plainName y.cls = true) (hlen : (lg_sl (av.map (eV K))).length ≤ maxL) (body : okU K μ → ∀ X : CX, okX K X bytes y.cls maxL d ret → PW K X maxL (QM K X Post) 0 (argl 0 av) [] μ) : Ct K d y bytes maxL ret av μ Post := fun hμ hav => Ct.of hy hlen (body hμ) hμ hav
theorem fcp_all {K : KX} {μ : Int → ME} {a b : Int} {n : Nat} {f g : Int → Int} (h : okU K μ) (ha : IR a) (hb : IR b) (h1 : μ a = mA n f) (h2 : μ b = mA n g) : fcp g f 0 0 (n : Int) = g := by
  have o1 := h a ha.1 ha.2
  have o2 := h b hb.1 hb.2
  rw [h1] at o1
  rw [h2] at o2
  funext j
  unfold fcp
  by_cases e : 0 ≤ j ∧ j < 0 + (n : Int)
  · rw [if_pos e, show 0 + (j - 0) = j by omega]
  · rw [if_neg e, o1.2 j (show j < 0 ∨ (n : Int) ≤ j by omega), o2.2 j (show j < 0 ∨ (n : Int) ≤ j by omega)]
/-- pairs of a voyage: the first refusal -/
def rfN (F : Int → Int) (fr ns i : Int) : Nat → Int
  | 0 => 0
  | t + 1 => if ¬ (0 ≤ F (fr + 2 * i + 1) ∧ F (fr + 2 * i + 1) ≤ 8) then -2 else if F (fr + 2 * i + 1) = 8 ∧ ¬ (0 ≤ F (fr + 2 * i) ∧ F (fr + 2 * i) ≤ 9) then -2 else if F (fr + 2 * i + 1) ≠ 8 ∧ ¬ (0 ≤ F (fr + 2 * i) ∧ F (fr + 2 * i) < ns) then -1 else rfN F fr ns (i + 1) t
/-- a pair that can be told -/
def okP (F : Int → Int) (fr ns i : Int) : Prop := (0 ≤ F (fr + 2 * i + 1) ∧ F (fr + 2 * i + 1) ≤ 8) ∧ (F (fr + 2 * i + 1) = 8 → 0 ≤ F (fr + 2 * i) ∧ F (fr + 2 * i) ≤ 9) ∧ (F (fr + 2 * i + 1) ≠ 8 → 0 ≤ F (fr + 2 * i) ∧ F (fr + 2 * i) < ns)
theorem rfN_ok (F : Int → Int) (fr ns : Int) : ∀ (t : Nat) (i : Int), rfN F fr ns i t = 0 → ∀ j, i ≤ j → j < i + (t : Int) → okP F fr ns j
  | 0, i, _, j, h1, h2 => by omega
  | t + 1, i, h, j, h1, h2 => by
    simp only [rfN] at h
    split at h
    · omega
    · split at h
      · omega
      · split at h
        · omega
        · by_cases e : j = i
          · subst e; exact ⟨by omega, by omega, by omega⟩
          · exact rfN_ok F fr ns t (i + 1) h j (by omega) (by push_cast at h2; omega)
theorem rfN_v (F : Int → Int) (fr ns : Int) : ∀ (t : Nat) (i : Int), rfN F fr ns i t = 0 ∨ rfN F fr ns i t = -1 ∨ rfN F fr ns i t = -2
  | 0, i => by simp [rfN]
  | t + 1, i => by
    have := rfN_v F fr ns t (i + 1)
    simp only [rfN]
    split
    · omega
    · split
      · omega
      · split
        · omega
        · exact this
/-- a voyage: its first wrong (-9: none), and what has become of the ships -/
def vyN (F : Int → Int) (fr np ns : Int) (rg kd nm sg : Int → Int) (i : Int) (S : DS) : Nat → Int × DS
  | 0 => (-9, S)
  | t + 1 => if F (fr + 2 * i + 1) = 8 then vyN F fr np ns rg kd nm sg (i + 1) (dyN np ns rg kd nm sg S (F (fr + 2 * i)).toNat) t
    else if 0 ≤ actV (S.2.1 (F (fr + 2 * i))) (F (fr + 2 * i + 1)) ∧ actV (S.2.1 (F (fr + 2 * i))) (F (fr + 2 * i + 1)) ≤ 9 then vyN F fr np ns rg kd nm sg (i + 1) (S.1, cup S.2.1 (F (fr + 2 * i)) (fup (S.2.1 (F (fr + 2 * i))) (actG (F (fr + 2 * i + 1))) (actV (S.2.1 (F (fr + 2 * i))) (F (fr + 2 * i + 1)))), S.2.2) t
    else (i, S)
theorem WS_act {np ns k : Int} {S : DS} {g v : Int} (h : WS np ns S) (hv : 0 ≤ v ∧ v ≤ 9) : WS np ns (S.1, cup S.2.1 k (fup (S.2.1 k) g v), S.2.2) := by
  intro j j0 j1
  obtain ⟨a1, a2⟩ := h j j0 j1
  dsimp only
  by_cases e : j = k
  · subst e; rw [cup_s]; exact ⟨a1, bd4_fup a2 hv⟩
  · rw [cup_n _ _ e]; exact ⟨a1, a2⟩

set_option maxHeartbeats 4000000 in
set_option maxRecDepth 100000 in
theorem k_X4_refusalOfPairs {K : KX} {d : Nat} {μ : Int → ME} {fr n : Int} {a c th ln le : Int} {f : Int → Int} (ha : IR a) (hr1 : μ a = oR th ln le c) (hc : IR c) (hr2 : μ c = mA 60 f) (hl : 0 ≤ le ∧ le ≤ 60) {np ns day nr tr fl : Int} (h0 : μ 0 = oY np ns day nr tr fl) (hf : 0 ≤ fr ∧ fr ≤ 60) (hn : 0 ≤ n ∧ n ≤ 100) : Ct K (d + 2) yX4_refusalOfPairs cX4_refusalOfPairs 7 (some .int) [vR 0, vR a, vI fr, vI n] μ (pF (vI (rfN (cAt le f) fr ns 0 n.toNat)) μ) := by
  refine Ct.of (by decide) (Nat.le_of_ble_eq_true rfl) (fun X C => ?_)
  have L : ∀ (t : Nat) (i : Int), 0 ≤ i → n - i = (t : Int) → rfN (cAt le f) fr ns i t = rfN (cAt le f) fr ns 0 n.toNat → PW K X 7 (QM K X (pF (vI (rfN (cAt le f) fr ns 0 n.toNat)) μ)) 3 [(4, vI i), (0, vR 0), (1, vR a), (2, vI fr), (3, vI n)] [] μ := by
    intro t
    induction t with
    | zero =>
      intro i h1 h2 h3
      refine p_iload (pc := 3) C dX4_refusalOfPairs_3 rfl ?_
      refine p_iload_n (pc := 5) C dX4_refusalOfPairs_5 rfl ?_
      refine p_icmp_ge (pc := 6) (tgt := 92) C dX4_refusalOfPairs_6 (by decide) (fun c_6 => ?_) (fun h => by exfalso; omega)
      refine p_iconst (pc := 92) C dX4_refusalOfPairs_92 (by decide) ?_
      refine p_iret (pc := 93) C dX4_refusalOfPairs_93 ?_
      exact ⟨sv (by rw [← h3]; rfl), rfl⟩
    | succ t ih =>
      intro i h1 h2 h3
      rw [rfN] at h3
      refine p_iload (pc := 3) C dX4_refusalOfPairs_3 rfl ?_
      refine p_iload_n (pc := 5) C dX4_refusalOfPairs_5 rfl ?_
      refine p_icmp_ge (pc := 6) (tgt := 92) C dX4_refusalOfPairs_6 (by decide) (fun h => by exfalso; omega) (fun c_6 => ?_)
      refine p_aload_n (pc := 9) C dX4_refusalOfPairs_9 rfl ?_
      refine p_iload_n (pc := 10) C dX4_refusalOfPairs_10 rfl ?_
      refine p_iconst (pc := 11) C dX4_refusalOfPairs_11 (by decide) ?_
      refine p_iload (pc := 12) C dX4_refusalOfPairs_12 rfl ?_
      refine p_imul (pc := 14) C dX4_refusalOfPairs_14 ⟨by omega, by omega⟩ ?_
      refine p_iadd (pc := 15) C dX4_refusalOfPairs_15 ⟨by omega, by omega⟩ ?_
      refine p_callVF (pc := 16) C ln_X4_267 dX4_refusalOfPairs_16 (k_X0_codeAt ha hr1 hc hr2 hl) (by first | exact ha | exact hc | exact ⟨by omega, by omega⟩) (by (repeat refine mg_n (by omega) ?_); first | assumption | exact mup_s _ _ _) rfl rfl rfl rfl (Nat.le_of_ble_eq_true rfl) ?_
      refine p_istore (pc := 19) (ls' := [(5, _), (4, _), (0, _), (1, _), (2, _), (3, _)]) C dX4_refusalOfPairs_19 (by decide) rfl ?_
      refine p_aload_n (pc := 21) C dX4_refusalOfPairs_21 rfl ?_
      refine p_iload_n (pc := 22) C dX4_refusalOfPairs_22 rfl ?_
      refine p_iconst (pc := 23) C dX4_refusalOfPairs_23 (by decide) ?_
      refine p_iload (pc := 24) C dX4_refusalOfPairs_24 rfl ?_
      refine p_imul (pc := 26) C dX4_refusalOfPairs_26 ⟨by omega, by omega⟩ ?_
      refine p_iadd (pc := 27) C dX4_refusalOfPairs_27 ⟨by omega, by omega⟩ ?_
      refine p_iconst (pc := 28) C dX4_refusalOfPairs_28 (by decide) ?_
      refine p_iadd (pc := 29) C dX4_refusalOfPairs_29 ⟨by omega, by omega⟩ ?_
      refine p_callVF (pc := 30) C ln_X4_267 dX4_refusalOfPairs_30 (k_X0_codeAt ha hr1 hc hr2 hl) (by first | exact ha | exact hc | exact ⟨by omega, by omega⟩) (by (repeat refine mg_n (by omega) ?_); first | assumption | exact mup_s _ _ _) rfl rfl rfl rfl (Nat.le_of_ble_eq_true rfl) ?_
      refine p_istore (pc := 33) (ls' := [(6, _), (5, _), (4, _), (0, _), (1, _), (2, _), (3, _)]) C dX4_refusalOfPairs_33 (by decide) rfl ?_
      refine p_iload (pc := 35) C dX4_refusalOfPairs_35 rfl ?_
      refine p_bipush (pc := 37) C dX4_refusalOfPairs_37 (by decide) ?_
      refine p_callSF (pc := 39) C ln_X4_127 dX4_refusalOfPairs_39 (k_X4_isUpTo) rfl rfl (Nat.le_of_ble_eq_true rfl) ?_
      refine p_ifne_b (pc := 42) (tgt := 48) C dX4_refusalOfPairs_42 (by decide) (fun c_42 => ?_) (fun c_42 => ?_)
      · refine p_iload (pc := 48) C dX4_refusalOfPairs_48 rfl ?_
        refine p_bipush (pc := 50) C dX4_refusalOfPairs_50 (by decide) ?_
        refine p_icmp_ne (pc := 52) (tgt := 68) C dX4_refusalOfPairs_52 (by decide) (fun c_52 => ?_) (fun c_52 => ?_)
        · refine p_iload (pc := 68) C dX4_refusalOfPairs_68 rfl ?_
          refine p_bipush (pc := 70) C dX4_refusalOfPairs_70 (by decide) ?_
          refine p_icmp_eq (pc := 72) (tgt := 86) C dX4_refusalOfPairs_72 (by decide) (fun c_72 => ?_) (fun c_72 => ?_)
          · refine p_iinc (pc := 86) (ls' := [(4, _), (6, _), (5, _), (0, _), (1, _), (2, _), (3, _)]) C dX4_refusalOfPairs_86 (by decide) rfl ⟨by omega, by omega⟩ rfl ?_
            refine p_goto (pc := 89) (tgt := 3) C dX4_refusalOfPairs_89 (by decide) ?_
            refine p_pick [0, 3, 4, 5, 6] (ls' := [(4, _), (0, _), (1, _), (2, _), (3, _)]) rfl ?_
            exact ih (i + 1) (by omega) (by omega) (by rw [if_neg (by omega), if_neg (by omega), if_neg (by omega)] at h3; exact h3)
          · refine p_aload_n (pc := 75) C dX4_refusalOfPairs_75 rfl ?_
            refine p_iload (pc := 76) C dX4_refusalOfPairs_76 rfl ?_
            refine p_callVF (pc := 78) C ln_X4_89 dX4_refusalOfPairs_78 (k_X4_isShip h0) (by first | exact ha | exact hc | exact ⟨by omega, by omega⟩) (by (repeat refine mg_n (by omega) ?_); first | assumption | exact mup_s _ _ _) rfl rfl rfl rfl (Nat.le_of_ble_eq_true rfl) ?_
            refine p_ifne_b (pc := 81) (tgt := 86) C dX4_refusalOfPairs_81 (by decide) (fun c_81 => ?_) (fun c_81 => ?_)
            · refine p_iinc (pc := 86) (ls' := [(4, _), (6, _), (5, _), (0, _), (1, _), (2, _), (3, _)]) C dX4_refusalOfPairs_86 (by decide) rfl ⟨by omega, by omega⟩ rfl ?_
              refine p_goto (pc := 89) (tgt := 3) C dX4_refusalOfPairs_89 (by decide) ?_
              refine p_pick [0, 3, 4, 5, 6] (ls' := [(4, _), (0, _), (1, _), (2, _), (3, _)]) rfl ?_
              exact ih (i + 1) (by omega) (by omega) (by rw [if_neg (by omega), if_neg (by omega), if_neg (by omega)] at h3; exact h3)
            · refine p_iconst (pc := 84) C dX4_refusalOfPairs_84 (by decide) ?_
              refine p_iret (pc := 85) C dX4_refusalOfPairs_85 ?_
              first
                | exact ⟨sv (by rw [← h3, if_pos (by omega)]), rfl⟩
                | exact ⟨sv (by rw [← h3, if_neg (by omega), if_pos (by omega)]), rfl⟩
                | exact ⟨sv (by rw [← h3, if_neg (by omega), if_neg (by omega), if_pos (by omega)]), rfl⟩
        · refine p_iload (pc := 55) C dX4_refusalOfPairs_55 rfl ?_
          refine p_bipush (pc := 57) C dX4_refusalOfPairs_57 (by decide) ?_
          refine p_callSF (pc := 59) C ln_X4_127 dX4_refusalOfPairs_59 (k_X4_isUpTo) rfl rfl (Nat.le_of_ble_eq_true rfl) ?_
          refine p_ifne_b (pc := 62) (tgt := 68) C dX4_refusalOfPairs_62 (by decide) (fun c_62 => ?_) (fun c_62 => ?_)
          · refine p_iload (pc := 68) C dX4_refusalOfPairs_68 rfl ?_
            refine p_bipush (pc := 70) C dX4_refusalOfPairs_70 (by decide) ?_
            refine p_icmp_eq (pc := 72) (tgt := 86) C dX4_refusalOfPairs_72 (by decide) (fun c_72 => ?_) (fun c_72 => ?_)
            · refine p_iinc (pc := 86) (ls' := [(4, _), (6, _), (5, _), (0, _), (1, _), (2, _), (3, _)]) C dX4_refusalOfPairs_86 (by decide) rfl ⟨by omega, by omega⟩ rfl ?_
              refine p_goto (pc := 89) (tgt := 3) C dX4_refusalOfPairs_89 (by decide) ?_
              refine p_pick [0, 3, 4, 5, 6] (ls' := [(4, _), (0, _), (1, _), (2, _), (3, _)]) rfl ?_
              exact ih (i + 1) (by omega) (by omega) (by rw [if_neg (by omega), if_neg (by omega), if_neg (by omega)] at h3; exact h3)
            · refine p_aload_n (pc := 75) C dX4_refusalOfPairs_75 rfl ?_
              refine p_iload (pc := 76) C dX4_refusalOfPairs_76 rfl ?_
              refine p_callVF (pc := 78) C ln_X4_89 dX4_refusalOfPairs_78 (k_X4_isShip h0) (by first | exact ha | exact hc | exact ⟨by omega, by omega⟩) (by (repeat refine mg_n (by omega) ?_); first | assumption | exact mup_s _ _ _) rfl rfl rfl rfl (Nat.le_of_ble_eq_true rfl) ?_
              refine p_ifne_b (pc := 81) (tgt := 86) C dX4_refusalOfPairs_81 (by decide) (fun c_81 => ?_) (fun c_81 => ?_)
              · refine p_iinc (pc := 86) (ls' := [(4, _), (6, _), (5, _), (0, _), (1, _), (2, _), (3, _)]) C dX4_refusalOfPairs_86 (by decide) rfl ⟨by omega, by omega⟩ rfl ?_
                refine p_goto (pc := 89) (tgt := 3) C dX4_refusalOfPairs_89 (by decide) ?_
                refine p_pick [0, 3, 4, 5, 6] (ls' := [(4, _), (0, _), (1, _), (2, _), (3, _)]) rfl ?_
                exact ih (i + 1) (by omega) (by omega) (by rw [if_neg (by omega), if_neg (by omega), if_neg (by omega)] at h3; exact h3)
              · refine p_iconst (pc := 84) C dX4_refusalOfPairs_84 (by decide) ?_
                refine p_iret (pc := 85) C dX4_refusalOfPairs_85 ?_
                first
                  | exact ⟨sv (by rw [← h3, if_pos (by omega)]), rfl⟩
                  | exact ⟨sv (by rw [← h3, if_neg (by omega), if_pos (by omega)]), rfl⟩
                  | exact ⟨sv (by rw [← h3, if_neg (by omega), if_neg (by omega), if_pos (by omega)]), rfl⟩
          · refine p_bipush (pc := 65) C dX4_refusalOfPairs_65 (by decide) ?_
            refine p_iret (pc := 67) C dX4_refusalOfPairs_67 ?_
            first
              | exact ⟨sv (by rw [← h3, if_pos (by omega)]), rfl⟩
              | exact ⟨sv (by rw [← h3, if_neg (by omega), if_pos (by omega)]), rfl⟩
              | exact ⟨sv (by rw [← h3, if_neg (by omega), if_neg (by omega), if_pos (by omega)]), rfl⟩
      · refine p_bipush (pc := 45) C dX4_refusalOfPairs_45 (by decide) ?_
        refine p_iret (pc := 47) C dX4_refusalOfPairs_47 ?_
        first
          | exact ⟨sv (by rw [← h3, if_pos (by omega)]), rfl⟩
          | exact ⟨sv (by rw [← h3, if_neg (by omega), if_pos (by omega)]), rfl⟩
          | exact ⟨sv (by rw [← h3, if_neg (by omega), if_neg (by omega), if_pos (by omega)]), rfl⟩
  refine p_iconst (pc := 0) C dX4_refusalOfPairs_0 (by decide) ?_
  refine p_istore (pc := 1) (ls' := [(4, _), (0, _), (1, _), (2, _), (3, _)]) C dX4_refusalOfPairs_1 (by decide) rfl ?_
  exact L n.toNat 0 (by omega) (by omega) rfl
