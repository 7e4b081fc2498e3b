theorem Ct.ofU {K : KX} {d maxL : Nat} {ret : Option FieldType} {μ : Int → ME} {y : MethodName} {bytes : ByteArray} {av : List PV} {Post : Option PV → (Int → ME) → Prop} (hy : plainName y.cls = true) (hlen : (lg_sl (av.map (eV K))).length ≤ maxL) (body : okU K μ → ∀ X : CX, okX K X bytes y.cls maxL d ret → PW K X maxL (QM K X Post) 0 (argl 0 av) [] μ) : Ct K d y bytes maxL ret av μ Post := fun hμ hav => Ct.of hy hlen (body hμ) hμ hav
theorem fcp_all {K : KX} {μ : Int → ME} {a b : Int} {n : Nat} {f g : Int → Int} (h : okU K μ) (ha : IR a) (hb : IR b) (h1 : μ a = mA n f) (h2 : μ b = mA n g) : fcp g f 0 0 (n : Int) = g := by
  have o1 := h a ha.1 ha.2
  have o2 := h b hb.1 hb.2
  rw [h1] at o1
  rw [h2] at o2
  funext j
  unfold fcp
  by_cases e : 0 ≤ j ∧ j < 0 + (n : Int)
  · rw [if_pos e, show 0 + (j - 0) = j by omega]
  · rw [if_neg e]
    exact (o1.2 j (show j < 0 ∨ (n : Int) ≤ j by omega)).trans (o2.2 j (show j < 0 ∨ (n : Int) ≤ j by omega)).symm
/-- pairs of a voyage: the first refusal -/
def rfN (F : Int → Int) (fr ns i : Int) : Nat → Int
  | 0 => 0
  | t + 1 => if ¬ (0 ≤ F (fr + 2 * i + 1) ∧ F (fr + 2 * i + 1) ≤ 8) then -2 else if F (fr + 2 * i + 1) = 8 ∧ ¬ (0 ≤ F (fr + 2 * i) ∧ F (fr + 2 * i) ≤ 9) then -2 else if F (fr + 2 * i + 1) ≠ 8 ∧ ¬ (0 ≤ F (fr + 2 * i) ∧ F (fr + 2 * i) < ns) then -1 else rfN F fr ns (i + 1) t
/-- a pair that can be told -/
def okP (F : Int → Int) (fr ns i : Int) : Prop := (0 ≤ F (fr + 2 * i + 1) ∧ F (fr + 2 * i + 1) ≤ 8) ∧ (F (fr + 2 * i + 1) = 8 → 0 ≤ F (fr + 2 * i) ∧ F (fr + 2 * i) ≤ 9) ∧ (F (fr + 2 * i + 1) ≠ 8 → 0 ≤ F (fr + 2 * i) ∧ F (fr + 2 * i) < ns)
theorem rfN_ok (F : Int → Int) (fr ns : Int) : ∀ (t : Nat) (i : Int), rfN F fr ns i t = 0 → ∀ j, i ≤ j → j < i + (t : Int) → okP F fr ns j
  | 0, i, _, j, h1, h2 => by omega
  | t + 1, i, h, j, h1, h2 => by
    simp only [rfN] at h
    split at h
    · omega
    · split at h
      · omega
      · split at h
        · omega
        · by_cases e : j = i
          · subst e; exact ⟨by omega, by omega, by omega⟩
          · exact rfN_ok F fr ns t (i + 1) h j (by omega) (by push_cast at h2; omega)
theorem rfN_v (F : Int → Int) (fr ns : Int) : ∀ (t : Nat) (i : Int), rfN F fr ns i t = 0 ∨ rfN F fr ns i t = -1 ∨ rfN F fr ns i t = -2
  | 0, i => by simp [rfN]
  | t + 1, i => by
    have := rfN_v F fr ns t (i + 1)
    simp only [rfN]
    split
    · omega
    · split
      · omega
      · split
        · omega
        · exact this
/-- a voyage: its first wrong (-9: none), and what has become of the ships -/
def vyN (F : Int → Int) (fr np ns : Int) (rg kd nm sg : Int → Int) (i : Int) (S : DS) : Nat → Int × DS
  | 0 => (-9, S)
  | t + 1 => if F (fr + 2 * i + 1) = 8 then vyN F fr np ns rg kd nm sg (i + 1) (dyN np ns rg kd nm sg S (F (fr + 2 * i)).toNat) t
    else if 0 ≤ actV (S.2.1 (F (fr + 2 * i))) (F (fr + 2 * i + 1)) ∧ actV (S.2.1 (F (fr + 2 * i))) (F (fr + 2 * i + 1)) ≤ 9 then vyN F fr np ns rg kd nm sg (i + 1) (S.1, cup S.2.1 (F (fr + 2 * i)) (fup (S.2.1 (F (fr + 2 * i))) (actG (F (fr + 2 * i + 1))) (actV (S.2.1 (F (fr + 2 * i))) (F (fr + 2 * i + 1)))), S.2.2) t
    else (i, S)
theorem WS_act {np ns k : Int} {S : DS} {g v : Int} (h : WS np ns S) (hv : 0 ≤ v ∧ v ≤ 9) : WS np ns (S.1, cup S.2.1 k (fup (S.2.1 k) g v), S.2.2) := by
  intro j j0 j1
  obtain ⟨a1, a2⟩ := h j j0 j1
  dsimp only
  by_cases e : j = k
  · subst e; rw [cup_s]; exact ⟨a1, bd4_fup a2 hv⟩
  · rw [cup_n _ _ e]; exact ⟨a1, a2⟩

set_option maxHeartbeats 4000000 in
set_option maxRecDepth 100000 in
theorem k_X4_refusalOfPairs {K : KX} {d : Nat} {μ : Int → ME} {fr n : Int} {a c th ln le : Int} {f : Int → Int} (ha : IR a) (hr1 : μ a = oR th ln le c) (hc : IR c) (hr2 : μ c = mA 60 f) (hl : 0 ≤ le ∧ le ≤ 60) {np ns day nr tr fl : Int} (h0 : μ 0 = oY np ns day nr tr fl) (hf : 0 ≤ fr ∧ fr ≤ 60) (hn : 0 ≤ n ∧ n ≤ 100) : Ct K (d + 2) yX4_refusalOfPairs cX4_refusalOfPairs 7 (some .int) [vR 0, vR a, vI fr, vI n] μ (pF (vI (rfN (cAt le f) fr ns 0 n.toNat)) μ) := by
  refine Ct.of (by decide) (Nat.le_of_ble_eq_true rfl) (fun X C => ?_)
  have L : ∀ (t : Nat) (i : Int), 0 ≤ i → n - i = (t : Int) → rfN (cAt le f) fr ns i t = rfN (cAt le f) fr ns 0 n.toNat → PW K X 7 (QM K X (pF (vI (rfN (cAt le f) fr ns 0 n.toNat)) μ)) 3 [(4, vI i), (0, vR 0), (1, vR a), (2, vI fr), (3, vI n)] [] μ := by
    intro t
    induction t with
    | zero =>
      intro i h1 h2 h3
      refine p_iload (pc := 3) C dX4_refusalOfPairs_3 rfl ?_
      refine p_iload_n (pc := 5) C dX4_refusalOfPairs_5 rfl ?_
      refine p_icmp_ge (pc := 6) (tgt := 92) C dX4_refusalOfPairs_6 (by decide) (fun c_6 => ?_) (fun h => by exfalso; omega)
      refine p_iconst (pc := 92) C dX4_refusalOfPairs_92 (by decide) ?_
      refine p_iret (pc := 93) C dX4_refusalOfPairs_93 ?_
      exact ⟨sv (by rw [← h3]; rfl), rfl⟩
    | succ t ih =>
      intro i h1 h2 h3
      rw [rfN] at h3
      refine p_iload (pc := 3) C dX4_refusalOfPairs_3 rfl ?_
      refine p_iload_n (pc := 5) C dX4_refusalOfPairs_5 rfl ?_
      refine p_icmp_ge (pc := 6) (tgt := 92) C dX4_refusalOfPairs_6 (by decide) (fun h => by exfalso; omega) (fun c_6 => ?_)
      refine p_aload_n (pc := 9) C dX4_refusalOfPairs_9 rfl ?_
      refine p_iload_n (pc := 10) C dX4_refusalOfPairs_10 rfl ?_
      refine p_iconst (pc := 11) C dX4_refusalOfPairs_11 (by decide) ?_
      refine p_iload (pc := 12) C dX4_refusalOfPairs_12 rfl ?_
      refine p_imul (pc := 14) C dX4_refusalOfPairs_14 ⟨by omega, by omega⟩ ?_
      refine p_iadd (pc := 15) C dX4_refusalOfPairs_15 ⟨by omega, by omega⟩ ?_
      refine p_callVF (pc := 16) C ln_X4_267 dX4_refusalOfPairs_16 (k_X0_codeAt ha hr1 hc hr2 hl) (by first | exact ha | exact hc | exact ⟨by omega, by omega⟩) (by (repeat refine mg_n (by omega) ?_); first | assumption | exact mup_s _ _ _) rfl rfl rfl rfl (Nat.le_of_ble_eq_true rfl) ?_
      refine p_istore (pc := 19) (ls' := [(5, _), (4, _), (0, _), (1, _), (2, _), (3, _)]) C dX4_refusalOfPairs_19 (by decide) rfl ?_
      refine p_aload_n (pc := 21) C dX4_refusalOfPairs_21 rfl ?_
      refine p_iload_n (pc := 22) C dX4_refusalOfPairs_22 rfl ?_
      refine p_iconst (pc := 23) C dX4_refusalOfPairs_23 (by decide) ?_
      refine p_iload (pc := 24) C dX4_refusalOfPairs_24 rfl ?_
      refine p_imul (pc := 26) C dX4_refusalOfPairs_26 ⟨by omega, by omega⟩ ?_
      refine p_iadd (pc := 27) C dX4_refusalOfPairs_27 ⟨by omega, by omega⟩ ?_
      refine p_iconst (pc := 28) C dX4_refusalOfPairs_28 (by decide) ?_
      refine p_iadd (pc := 29) C dX4_refusalOfPairs_29 ⟨by omega, by omega⟩ ?_
      refine p_callVF (pc := 30) C ln_X4_267 dX4_refusalOfPairs_30 (k_X0_codeAt ha hr1 hc hr2 hl) (by first | exact ha | exact hc | exact ⟨by omega, by omega⟩) (by (repeat refine mg_n (by omega) ?_); first | assumption | exact mup_s _ _ _) rfl rfl rfl rfl (Nat.le_of_ble_eq_true rfl) ?_
      refine p_istore (pc := 33) (ls' := [(6, _), (5, _), (4, _), (0, _), (1, _), (2, _), (3, _)]) C dX4_refusalOfPairs_33 (by decide) rfl ?_
      refine p_iload (pc := 35) C dX4_refusalOfPairs_35 rfl ?_
      refine p_bipush (pc := 37) C dX4_refusalOfPairs_37 (by decide) ?_
      refine p_callSF (pc := 39) C ln_X4_127 dX4_refusalOfPairs_39 (k_X4_isUpTo) rfl rfl (Nat.le_of_ble_eq_true rfl) ?_
      refine p_ifne_b (pc := 42) (tgt := 48) C dX4_refusalOfPairs_42 (by decide) (fun c_42 => ?_) (fun c_42 => ?_)
      · refine p_iload (pc := 48) C dX4_refusalOfPairs_48 rfl ?_
        refine p_bipush (pc := 50) C dX4_refusalOfPairs_50 (by decide) ?_
        refine p_icmp_ne (pc := 52) (tgt := 68) C dX4_refusalOfPairs_52 (by decide) (fun c_52 => ?_) (fun c_52 => ?_)
        · refine p_iload (pc := 68) C dX4_refusalOfPairs_68 rfl ?_
          refine p_bipush (pc := 70) C dX4_refusalOfPairs_70 (by decide) ?_
          refine p_icmp_eq (pc := 72) (tgt := 86) C dX4_refusalOfPairs_72 (by decide) (fun c_72 => ?_) (fun c_72 => ?_)
          · refine p_iinc (pc := 86) (ls' := [(4, _), (6, _), (5, _), (0, _), (1, _), (2, _), (3, _)]) C dX4_refusalOfPairs_86 (by decide) rfl ⟨by omega, by omega⟩ rfl ?_
            refine p_goto (pc := 89) (tgt := 3) C dX4_refusalOfPairs_89 (by decide) ?_
            refine p_pick [0, 3, 4, 5, 6] (ls' := [(4, _), (0, _), (1, _), (2, _), (3, _)]) rfl ?_
            exact ih (i + 1) (by omega) (by omega) (by rw [if_neg (by omega), if_neg (by omega), if_neg (by omega)] at h3; exact h3)
          · refine p_aload_n (pc := 75) C dX4_refusalOfPairs_75 rfl ?_
            refine p_iload (pc := 76) C dX4_refusalOfPairs_76 rfl ?_
            refine p_callVF (pc := 78) C ln_X4_89 dX4_refusalOfPairs_78 (k_X4_isShip h0) (by first | exact ha | exact hc | exact ⟨by omega, by omega⟩) (by (repeat refine mg_n (by omega) ?_); first | assumption | exact mup_s _ _ _) rfl rfl rfl rfl (Nat.le_of_ble_eq_true rfl) ?_
            refine p_ifne_b (pc := 81) (tgt := 86) C dX4_refusalOfPairs_81 (by decide) (fun c_81 => ?_) (fun c_81 => ?_)
            · refine p_iinc (pc := 86) (ls' := [(4, _), (6, _), (5, _), (0, _), (1, _), (2, _), (3, _)]) C dX4_refusalOfPairs_86 (by decide) rfl ⟨by omega, by omega⟩ rfl ?_
              refine p_goto (pc := 89) (tgt := 3) C dX4_refusalOfPairs_89 (by decide) ?_
              refine p_pick [0, 3, 4, 5, 6] (ls' := [(4, _), (0, _), (1, _), (2, _), (3, _)]) rfl ?_
              exact ih (i + 1) (by omega) (by omega) (by rw [if_neg (by omega), if_neg (by omega), if_neg (by omega)] at h3; exact h3)
            · refine p_iconst (pc := 84) C dX4_refusalOfPairs_84 (by decide) ?_
              refine p_iret (pc := 85) C dX4_refusalOfPairs_85 ?_
              first
                | (exfalso; omega)
                | exact ⟨sv (by rw [← h3, if_pos (by omega)]), rfl⟩
                | exact ⟨sv (by rw [← h3, if_neg (by omega), if_pos (by omega)]), rfl⟩
                | exact ⟨sv (by rw [← h3, if_neg (by omega), if_neg (by omega), if_pos (by omega)]), rfl⟩
        · refine p_iload (pc := 55) C dX4_refusalOfPairs_55 rfl ?_
          refine p_bipush (pc := 57) C dX4_refusalOfPairs_57 (by decide) ?_
          refine p_callSF (pc := 59) C ln_X4_127 dX4_refusalOfPairs_59 (k_X4_isUpTo) rfl rfl (Nat.le_of_ble_eq_true rfl) ?_
          refine p_ifne_b (pc := 62) (tgt := 68) C dX4_refusalOfPairs_62 (by decide) (fun c_62 => ?_) (fun c_62 => ?_)
          · refine p_iload (pc := 68) C dX4_refusalOfPairs_68 rfl ?_
            refine p_bipush (pc := 70) C dX4_refusalOfPairs_70 (by decide) ?_
            refine p_icmp_eq (pc := 72) (tgt := 86) C dX4_refusalOfPairs_72 (by decide) (fun c_72 => ?_) (fun c_72 => ?_)
            · refine p_iinc (pc := 86) (ls' := [(4, _), (6, _), (5, _), (0, _), (1, _), (2, _), (3, _)]) C dX4_refusalOfPairs_86 (by decide) rfl ⟨by omega, by omega⟩ rfl ?_
              refine p_goto (pc := 89) (tgt := 3) C dX4_refusalOfPairs_89 (by decide) ?_
              refine p_pick [0, 3, 4, 5, 6] (ls' := [(4, _), (0, _), (1, _), (2, _), (3, _)]) rfl ?_
              exact ih (i + 1) (by omega) (by omega) (by rw [if_neg (by omega), if_neg (by omega), if_neg (by omega)] at h3; exact h3)
            · refine p_aload_n (pc := 75) C dX4_refusalOfPairs_75 rfl ?_
              refine p_iload (pc := 76) C dX4_refusalOfPairs_76 rfl ?_
              refine p_callVF (pc := 78) C ln_X4_89 dX4_refusalOfPairs_78 (k_X4_isShip h0) (by first | exact ha | exact hc | exact ⟨by omega, by omega⟩) (by (repeat refine mg_n (by omega) ?_); first | assumption | exact mup_s _ _ _) rfl rfl rfl rfl (Nat.le_of_ble_eq_true rfl) ?_
              refine p_ifne_b (pc := 81) (tgt := 86) C dX4_refusalOfPairs_81 (by decide) (fun c_81 => ?_) (fun c_81 => ?_)
              · refine p_iinc (pc := 86) (ls' := [(4, _), (6, _), (5, _), (0, _), (1, _), (2, _), (3, _)]) C dX4_refusalOfPairs_86 (by decide) rfl ⟨by omega, by omega⟩ rfl ?_
                refine p_goto (pc := 89) (tgt := 3) C dX4_refusalOfPairs_89 (by decide) ?_
                refine p_pick [0, 3, 4, 5, 6] (ls' := [(4, _), (0, _), (1, _), (2, _), (3, _)]) rfl ?_
                exact ih (i + 1) (by omega) (by omega) (by rw [if_neg (by omega), if_neg (by omega), if_neg (by omega)] at h3; exact h3)
              · refine p_iconst (pc := 84) C dX4_refusalOfPairs_84 (by decide) ?_
                refine p_iret (pc := 85) C dX4_refusalOfPairs_85 ?_
                first
                  | (exfalso; omega)
                  | exact ⟨sv (by rw [← h3, if_pos (by omega)]), rfl⟩
                  | exact ⟨sv (by rw [← h3, if_neg (by omega), if_pos (by omega)]), rfl⟩
                  | exact ⟨sv (by rw [← h3, if_neg (by omega), if_neg (by omega), if_pos (by omega)]), rfl⟩
          · refine p_bipush (pc := 65) C dX4_refusalOfPairs_65 (by decide) ?_
            refine p_iret (pc := 67) C dX4_refusalOfPairs_67 ?_
            first
              | (exfalso; omega)
              | exact ⟨sv (by rw [← h3, if_pos (by omega)]), rfl⟩
              | exact ⟨sv (by rw [← h3, if_neg (by omega), if_pos (by omega)]), rfl⟩
              | exact ⟨sv (by rw [← h3, if_neg (by omega), if_neg (by omega), if_pos (by omega)]), rfl⟩
      · refine p_bipush (pc := 45) C dX4_refusalOfPairs_45 (by decide) ?_
        refine p_iret (pc := 47) C dX4_refusalOfPairs_47 ?_
        first
          | (exfalso; omega)
          | exact ⟨sv (by rw [← h3, if_pos (by omega)]), rfl⟩
          | exact ⟨sv (by rw [← h3, if_neg (by omega), if_pos (by omega)]), rfl⟩
          | exact ⟨sv (by rw [← h3, if_neg (by omega), if_neg (by omega), if_pos (by omega)]), rfl⟩
  refine p_iconst (pc := 0) C dX4_refusalOfPairs_0 (by decide) ?_
  refine p_istore (pc := 1) (ls' := [(4, _), (0, _), (1, _), (2, _), (3, _)]) C dX4_refusalOfPairs_1 (by decide) rfl ?_
  exact L n.toNat 0 (by omega) (by omega) rfl

theorem FI_self {b m e : Int} {kd nm sg : Int → Int} {S : DS} {μ ν : Int → ME} (h : FI b m e kd nm sg S μ ν) : FI b m e kd nm sg S ν ν := ⟨h.1, fun _ _ _ => rfl⟩
theorem FI_tr {b m e : Int} {kd nm sg : Int → Int} {S S2 : DS} {μ ν ν' : Int → ME} (h : FI b m e kd nm sg S μ ν) (h2 : FI b m e kd nm sg S2 ν ν') : FI b m e kd nm sg S2 μ ν' := ⟨h2.1, fun x x0 x1 => (h2.2 x x0 x1).trans (h.2 x x0 x1)⟩
theorem FI_act {m : Int} {kd nm sg : Int → Int} {S : DS} {μ ν : Int → ME} {k : Int} {f : Int → Int} (h : FI 16 m 4 kd nm sg S μ ν) (h0 : 0 ≤ k) (h1 : k < m) (hm : m ≤ 5) : FI 16 m 4 kd nm sg (S.1, cup S.2.1 k f, S.2.2) μ (mup ν (16 + 1 + 4 * k) (mA 4 f)) := by
  refine ⟨fun j j0 j1 => ?_, fun x x0 x1 => mg_n (by omega) (h.2 x x0 x1)⟩
  dsimp only
  by_cases e : j = k
  · subst e; rw [cup_s]; exact ⟨mg_n (by omega) (h.1 j j0 j1).1, mup_s _ _ _⟩
  · rw [cup_n _ _ e]; exact ⟨mg_n (by omega) (h.1 j j0 j1).1, mg_n (by omega) (h.1 j j0 j1).2⟩
theorem FI_4 {m : Int} {kd nm sg : Int → Int} {S : DS} {μ ν : Int → ME} (h : FI 16 m 4 kd nm sg S μ ν) (o : ME) : FI 16 m 4 kd nm sg S μ (mup ν 4 o) := FI_e h o
set_option maxHeartbeats 4000000 in
set_option maxRecDepth 100000 in
theorem k_X4_sailVoyage {K : KX} {d : Nat} {μ : Int → ME} {fr n : Int} {a c th ln le : Int} {f : Int → Int} (ha : IR a) (hr1 : μ a = oR th ln le c) (hc : IR c) (hr2 : μ c = mA 60 f) (hl : 0 ≤ le ∧ le ≤ 60) (ha3 : 34 ≤ a) (hc3 : 34 ≤ c) {np ns day nr tr fl : Int} (h0 : μ 0 = oY np ns day nr tr fl) {rg : Int → Int} (hr : μ 1 = mA 6 rg) (hnp : np ≤ 6) (hns : 0 ≤ ns ∧ ns ≤ 5) (hF : μ 2 = mR 0 5 (fun k => some (14 + 4 * k))) (hT : μ 3 = mR 0 5 (fun k => some (16 + 4 * k))) {kd nm sg pt : Int → Int} {ca : Int → Int → Int} (hS : ∀ k, 0 ≤ k → k < 5 → μ (14 + 4 * k) = oS (kd k) (nm k) (sg k) (pt k) (15 + 4 * k) ∧ μ (15 + 4 * k) = mA 4 (ca k)) (hTo : ∀ k, 0 ≤ k → k < 5 → ∃ (q1 q2 q3 q4 : Int) (q5 : Int → Int), μ (16 + 4 * k) = oS q1 q2 q3 q4 (17 + 4 * k) ∧ μ (17 + 4 * k) = mA 4 q5) {tp tw ts : Int} (h4 : μ 4 = oT tp tw ts) (hf : 0 ≤ fr ∧ fr ≤ 60) (hn : 0 ≤ n ∧ n ≤ 20) (hW : WS np ns (pt, ca, 0, 0, -9)) (hN : WN ns kd nm sg) (hP : ∀ i, 0 ≤ i → i < n → okP (cAt le f) fr ns i) : Ct K (d + 4) yX4_sailVoyage cX4_sailVoyage 7 (some .int) [vR 0, vR a, vI fr, vI n] μ (pI (fun z μ' => z = (vyN (cAt le f) fr np ns rg kd nm sg 0 (pt, ca, 0, 0, -9) n.toNat).1 ∧ FI 16 ns 4 kd nm sg (vyN (cAt le f) fr np ns rg kd nm sg 0 (pt, ca, 0, 0, -9) n.toNat).2 μ μ' ∧ μ' 4 = oT (vyN (cAt le f) fr np ns rg kd nm sg 0 (pt, ca, 0, 0, -9) n.toNat).2.2.2.1 (vyN (cAt le f) fr np ns rg kd nm sg 0 (pt, ca, 0, 0, -9) n.toNat).2.2.2.2.1 (vyN (cAt le f) fr np ns rg kd nm sg 0 (pt, ca, 0, 0, -9) n.toNat).2.2.2.2.2)) := by
  refine Ct.ofU (by decide) (Nat.le_of_ble_eq_true rfl) (fun hU X C => ?_)
  have L2 : ∀ (t : Nat) (i : Int) (S1 : DS) (ν : Int → ME), 0 ≤ i → n - i = (t : Int) → FI 16 ns 4 kd nm sg S1 μ ν → ν 4 = oT S1.2.2.1 S1.2.2.2.1 S1.2.2.2.2 → WS np ns S1 → (0 ≤ S1.2.2.1 ∧ S1.2.2.1 ≤ 10000 - 45 * (t : Int)) → (0 ≤ S1.2.2.2.1 ∧ S1.2.2.2.1 ≤ 40000 - 180 * (t : Int)) → vyN (cAt le f) fr np ns rg kd nm sg i S1 t = (vyN (cAt le f) fr np ns rg kd nm sg 0 (pt, ca, 0, 0, -9) n.toNat) → PW K X 7 (QM K X (pI (fun z μ' => z = (vyN (cAt le f) fr np ns rg kd nm sg 0 (pt, ca, 0, 0, -9) n.toNat).1 ∧ FI 16 ns 4 kd nm sg (vyN (cAt le f) fr np ns rg kd nm sg 0 (pt, ca, 0, 0, -9) n.toNat).2 μ μ' ∧ μ' 4 = oT (vyN (cAt le f) fr np ns rg kd nm sg 0 (pt, ca, 0, 0, -9) n.toNat).2.2.2.1 (vyN (cAt le f) fr np ns rg kd nm sg 0 (pt, ca, 0, 0, -9) n.toNat).2.2.2.2.1 (vyN (cAt le f) fr np ns rg kd nm sg 0 (pt, ca, 0, 0, -9) n.toNat).2.2.2.2.2))) 45 [(4, vI i), (0, vR 0), (1, vR a), (2, vI fr), (3, vI n)] [] ν := by
    intro t
    induction t with
    | zero =>
      intro i S1 ν g1 g2 g4 g5 g6 g7 g9 g8
      refine p_iload (pc := 45) C dX4_sailVoyage_45 rfl ?_
      refine p_iload_n (pc := 47) C dX4_sailVoyage_47 rfl ?_
      refine p_icmp_ge (pc := 48) (tgt := 126) C dX4_sailVoyage_48 (by decide) (fun c_48 => ?_) (fun h => by exfalso; omega)
      refine p_bipush (pc := 126) C dX4_sailVoyage_126 (by decide) ?_
      refine p_iret (pc := 128) C dX4_sailVoyage_128 ?_
      rw [vyN] at g8
      exact ⟨_, rfl, by rw [← g8], by rw [← g8]; exact g4, by rw [← g8]; exact g5⟩
    | succ t ih =>
      intro i S1 ν g1 g2 g4 g5 g6 g7 g9 g8
      obtain ⟨a1, a2⟩ := id g4
      have u0 : ν 0 = oY np ns day nr tr fl := (a2 0 (by omega) (by omega)).trans h0
      have u1 : ν 1 = mA 6 rg := (a2 1 (by omega) (by omega)).trans hr
      have u3 : ν 3 = mR 0 5 (fun k => some (16 + 4 * k)) := (a2 3 (by omega) (by omega)).trans hT
      have ua : ν a = oR th ln le c := (a2 a (by omega) (by omega)).trans hr1
      have uc : ν c = mA 60 f := (a2 c (by omega) (by omega)).trans hr2
      obtain ⟨p1, p2, p3⟩ := hP i g1 (by omega)
      rw [vyN] at g8
      generalize hA : cAt le f (fr + 2 * i + 1) = A at p1 p2 p3 g8
      generalize hB : cAt le f (fr + 2 * i) = Bq at p2 p3 g8
      refine p_iload (pc := 45) C dX4_sailVoyage_45 rfl ?_
      refine p_iload_n (pc := 47) C dX4_sailVoyage_47 rfl ?_
      refine p_icmp_ge (pc := 48) (tgt := 126) C dX4_sailVoyage_48 (by decide) (fun h => by exfalso; omega) (fun c_48 => ?_)
      refine p_aload_n (pc := 51) C dX4_sailVoyage_51 rfl ?_
      refine p_iload_n (pc := 52) C dX4_sailVoyage_52 rfl ?_
      refine p_iconst (pc := 53) C dX4_sailVoyage_53 (by decide) ?_
      refine p_iload (pc := 54) C dX4_sailVoyage_54 rfl ?_
      refine p_imul (pc := 56) C dX4_sailVoyage_56 ⟨by omega, by omega⟩ ?_
      refine p_iadd (pc := 57) C dX4_sailVoyage_57 ⟨by omega, by omega⟩ ?_
      refine p_callVF (pc := 58) C ln_X4_267 dX4_sailVoyage_58 (k_X0_codeAt ha ua hc uc hl) (by first | exact ha | exact hc | exact ⟨by omega, by omega⟩) (by (repeat refine mg_n (by omega) ?_); first | assumption | exact mup_s _ _ _) rfl rfl rfl rfl (Nat.le_of_ble_eq_true rfl) ?_
      refine p_top hB ?_
      refine p_istore (pc := 61) (ls' := [(5, _), (4, _), (0, _), (1, _), (2, _), (3, _)]) C dX4_sailVoyage_61 (by decide) rfl ?_
      refine p_aload_n (pc := 63) C dX4_sailVoyage_63 rfl ?_
      refine p_iload_n (pc := 64) C dX4_sailVoyage_64 rfl ?_
      refine p_iconst (pc := 65) C dX4_sailVoyage_65 (by decide) ?_
      refine p_iload (pc := 66) C dX4_sailVoyage_66 rfl ?_
      refine p_imul (pc := 68) C dX4_sailVoyage_68 ⟨by omega, by omega⟩ ?_
      refine p_iadd (pc := 69) C dX4_sailVoyage_69 ⟨by omega, by omega⟩ ?_
      refine p_iconst (pc := 70) C dX4_sailVoyage_70 (by decide) ?_
      refine p_iadd (pc := 71) C dX4_sailVoyage_71 ⟨by omega, by omega⟩ ?_
      refine p_callVF (pc := 72) C ln_X4_267 dX4_sailVoyage_72 (k_X0_codeAt ha ua hc uc hl) (by first | exact ha | exact hc | exact ⟨by omega, by omega⟩) (by (repeat refine mg_n (by omega) ?_); first | assumption | exact mup_s _ _ _) rfl rfl rfl rfl (Nat.le_of_ble_eq_true rfl) ?_
      refine p_top hA ?_
      refine p_istore (pc := 75) (ls' := [(6, _), (5, _), (4, _), (0, _), (1, _), (2, _), (3, _)]) C dX4_sailVoyage_75 (by decide) rfl ?_
      refine p_iload (pc := 77) C dX4_sailVoyage_77 rfl ?_
      refine p_bipush (pc := 79) C dX4_sailVoyage_79 (by decide) ?_
      refine p_icmp_ne (pc := 81) (tgt := 93) C dX4_sailVoyage_81 (by decide) (fun c_81 => ?_) (fun c_81 => ?_)
      · refine p_aload_n (pc := 93) C dX4_sailVoyage_93 rfl ?_
        refine p_iload (pc := 94) C dX4_sailVoyage_94 rfl ?_
        refine p_callVF (pc := 96) C ln_X4_89 dX4_sailVoyage_96 (k_X4_isShip u0) (by first | exact ha | exact hc | exact ⟨by omega, by omega⟩) (by (repeat refine mg_n (by omega) ?_); first | assumption | exact mup_s _ _ _) rfl rfl rfl rfl (Nat.le_of_ble_eq_true rfl) ?_
        refine p_ifeq_b (pc := 99) (tgt := 117) C dX4_sailVoyage_99 (by decide) (fun h => by exfalso; omega) (fun c_99 => ?_)
        obtain ⟨s1, s2⟩ := a1 Bq (by omega) (by omega)
        obtain ⟨w1, w2⟩ := g6 Bq (by omega) (by omega)
        refine p_aload_n (pc := 102) C dX4_sailVoyage_102 rfl ?_
        refine p_get (pc := 103) C fl_X4_21 dX4_sailVoyage_103 (by first | exact ha | exact hc | exact ⟨by omega, by omega⟩) (by (repeat refine mg_n (by omega) ?_); first | assumption | exact mup_s _ _ _) (by rfl) ?_
        refine p_iload (pc := 106) C dX4_sailVoyage_106 rfl ?_
        refine p_aald (pc := 108) C dX4_sailVoyage_108 (by first | exact ha | exact hc | exact ⟨by omega, by omega⟩) (by (repeat refine mg_n (by omega) ?_); first | assumption | exact mup_s _ _ _) (by decide) (by omega) (by rfl) ?_
        refine p_iload (pc := 109) C dX4_sailVoyage_109 rfl ?_
        refine p_callVF (pc := 111) C ln_X4_313 dX4_sailVoyage_111 (k_X1_doAct ⟨by omega, by omega⟩ s1 ⟨by omega, by omega⟩ s2 (by omega) w2 (by omega)) (by first | exact ha | exact hc | exact ⟨by omega, by omega⟩) (by (repeat refine mg_n (by omega) ?_); first | assumption | exact mup_s _ _ _) rfl rfl rfl rfl (Nat.le_of_ble_eq_true rfl) ?_
        refine p_ifne_b (pc := 114) (tgt := 120) C dX4_sailVoyage_114 (by decide) (fun c_114 => ?_) (fun c_114 => ?_)
        · try refine p_mem (if_pos c_114) ?_
          refine p_iinc (pc := 120) (ls' := [(4, _), (6, _), (5, _), (0, _), (1, _), (2, _), (3, _)]) C dX4_sailVoyage_120 (by decide) rfl ⟨by omega, by omega⟩ rfl ?_
          refine p_goto (pc := 123) (tgt := 45) C dX4_sailVoyage_123 (by decide) ?_
          refine p_pick [0, 3, 4, 5, 6] (ls' := [(4, _), (0, _), (1, _), (2, _), (3, _)]) rfl ?_
          first
            | (rw [if_pos (by omega)] at g8
               have hdy := WS_dy (np := np) (rg := rg) hN hns Bq.toNat S1 g6
               exact ih (i + 1) _ μ' (by omega) (by omega) (FI_tr g4 hpost.1) hpost.2 hdy.1 (by have := p2 (by omega); omega) (by have := p2 (by omega); omega) g8)
            | (rw [if_neg (by omega), if_pos c_114] at g8
               exact ih (i + 1) _ _ (by omega) (by omega) (FI_act g4 (by omega) (by omega) hns.2) (mg_n (by omega) g5) (WS_act g6 c_114) (by show 0 ≤ S1.2.2.1 ∧ S1.2.2.1 ≤ _; omega) (by show 0 ≤ S1.2.2.2.1 ∧ S1.2.2.2.1 ≤ _; omega) g8)
        · refine p_mem (if_neg c_114) ?_
          refine p_iload (pc := 117) C dX4_sailVoyage_117 rfl ?_
          refine p_iret (pc := 119) C dX4_sailVoyage_119 ?_
          rw [if_neg (by omega), if_neg c_114] at g8
          exact ⟨_, rfl, by rw [← g8], by rw [← g8]; exact g4, by rw [← g8]; exact g5⟩
      · refine p_aload_n (pc := 84) C dX4_sailVoyage_84 rfl ?_
        refine p_iload (pc := 85) C dX4_sailVoyage_85 rfl ?_
        refine p_callVV (pc := 87) C ln_X4_309 dX4_sailVoyage_87 (k_X4_sailToldDays u0 u1 hnp hns u3 (FI_self g4) g5 g6 hN (p2 (by omega)) (by omega) (by omega)) (by first | exact ha | exact hc | exact ⟨by omega, by omega⟩) (by (repeat refine mg_n (by omega) ?_); first | assumption | exact mup_s _ _ _) rfl rfl rfl rfl (Nat.le_of_ble_eq_true rfl) (fun μ' hpost => ?_)
        refine p_goto (pc := 90) (tgt := 120) C dX4_sailVoyage_90 (by decide) ?_
        try refine p_mem (if_pos c_114) ?_
        refine p_iinc (pc := 120) (ls' := [(4, _), (6, _), (5, _), (0, _), (1, _), (2, _), (3, _)]) C dX4_sailVoyage_120 (by decide) rfl ⟨by omega, by omega⟩ rfl ?_
        refine p_goto (pc := 123) (tgt := 45) C dX4_sailVoyage_123 (by decide) ?_
        refine p_pick [0, 3, 4, 5, 6] (ls' := [(4, _), (0, _), (1, _), (2, _), (3, _)]) rfl ?_
        first
          | (rw [if_pos (by omega)] at g8
             have hdy := WS_dy (np := np) (rg := rg) hN hns Bq.toNat S1 g6
             exact ih (i + 1) _ μ' (by omega) (by omega) (FI_tr g4 hpost.1) hpost.2 hdy.1 (by have := p2 (by omega); omega) (by have := p2 (by omega); omega) g8)
          | (rw [if_neg (by omega), if_pos c_114] at g8
             exact ih (i + 1) _ _ (by omega) (by omega) (FI_act g4 (by omega) (by omega) hns.2) (mg_n (by omega) g5) (WS_act g6 c_114) (by show 0 ≤ S1.2.2.1 ∧ S1.2.2.1 ≤ _; omega) (by show 0 ≤ S1.2.2.2.1 ∧ S1.2.2.2.1 ≤ _; omega) g8)
  have L1 : ∀ (t : Nat) (k : Int) (ν : Int → ME), 0 ≤ k → ns - k = (t : Int) → (FI 16 k 4 kd nm sg (pt, ca, 0, 0, -9) μ ν ∧ ∀ j, k ≤ j → j < 5 → ν (16 + 4 * j) = μ (16 + 4 * j) ∧ ν (17 + 4 * j) = μ (17 + 4 * j)) → ν 4 = μ 4 → PW K X 7 (QM K X (pI (fun z μ' => z = (vyN (cAt le f) fr np ns rg kd nm sg 0 (pt, ca, 0, 0, -9) n.toNat).1 ∧ FI 16 ns 4 kd nm sg (vyN (cAt le f) fr np ns rg kd nm sg 0 (pt, ca, 0, 0, -9) n.toNat).2 μ μ' ∧ μ' 4 = oT (vyN (cAt le f) fr np ns rg kd nm sg 0 (pt, ca, 0, 0, -9) n.toNat).2.2.2.1 (vyN (cAt le f) fr np ns rg kd nm sg 0 (pt, ca, 0, 0, -9) n.toNat).2.2.2.2.1 (vyN (cAt le f) fr np ns rg kd nm sg 0 (pt, ca, 0, 0, -9) n.toNat).2.2.2.2.2))) 3 [(4, vI k), (0, vR 0), (1, vR a), (2, vI fr), (3, vI n)] [] ν := by
    intro t
    induction t with
    | zero =>
      intro k ν g1 g2 g4 g5
      have ek : ns = k := by omega
      subst ek
      obtain ⟨⟨a1, a2⟩, a3⟩ := id g4
      have u0 : ν 0 = oY np ns day nr tr fl := (a2 0 (by omega) (by omega)).trans h0
      have u2 : ν 2 = mR 0 5 (fun k => some (14 + 4 * k)) := (a2 2 (by omega) (by omega)).trans hF
      have u3 : ν 3 = mR 0 5 (fun k => some (16 + 4 * k)) := (a2 3 (by omega) (by omega)).trans hT
      refine p_iload (pc := 3) C dX4_sailVoyage_3 rfl ?_
      refine p_aload_n (pc := 5) C dX4_sailVoyage_5 rfl ?_
      refine p_get (pc := 6) C fl_X4_86 dX4_sailVoyage_6 (by first | exact ha | exact hc | exact ⟨by omega, by omega⟩) (by (repeat refine mg_n (by omega) ?_); first | assumption | exact mup_s _ _ _) (by rfl) ?_
      refine p_icmp_ge (pc := 9) (tgt := 35) C dX4_sailVoyage_9 (by decide) (fun c_9 => ?_) (fun h => by exfalso; omega)
      have ut : ν 4 = oT tp tw ts := g5.trans h4
      refine p_aload_n (pc := 35) C dX4_sailVoyage_35 rfl ?_
      refine p_get (pc := 36) C fl_X4_27 dX4_sailVoyage_36 (by first | exact ha | exact hc | exact ⟨by omega, by omega⟩) (by (repeat refine mg_n (by omega) ?_); first | assumption | exact mup_s _ _ _) (by rfl) ?_
      refine p_callVU (pc := 39) C ln_X4_307 dX4_sailVoyage_39 (k_X3_begin ⟨by omega, by omega⟩ ut) (by first | exact ha | exact hc | exact ⟨by omega, by omega⟩) (by (repeat refine mg_n (by omega) ?_); first | assumption | exact mup_s _ _ _) rfl rfl rfl rfl (Nat.le_of_ble_eq_true rfl) ?_
      refine p_iconst (pc := 42) C dX4_sailVoyage_42 (by decide) ?_
      refine p_istore (pc := 43) (ls' := [(4, _), (0, _), (1, _), (2, _), (3, _)]) C dX4_sailVoyage_43 (by decide) rfl ?_
      exact L2 n.toNat 0 (pt, ca, 0, 0, -9) _ (by omega) (by omega) (FI_4 g4.1 _) (mup_s _ _ _) hW ⟨by show (0 : Int) ≤ 0; omega, by show (0 : Int) ≤ _; omega⟩ ⟨by show (0 : Int) ≤ 0; omega, by show (0 : Int) ≤ _; omega⟩ rfl
    | succ t ih =>
      intro k ν g1 g2 g4 g5
      obtain ⟨⟨a1, a2⟩, a3⟩ := id g4
      have u0 : ν 0 = oY np ns day nr tr fl := (a2 0 (by omega) (by omega)).trans h0
      have u2 : ν 2 = mR 0 5 (fun k => some (14 + 4 * k)) := (a2 2 (by omega) (by omega)).trans hF
      have u3 : ν 3 = mR 0 5 (fun k => some (16 + 4 * k)) := (a2 3 (by omega) (by omega)).trans hT
      obtain ⟨q1, q2, q3, q4, q5, t1, t2⟩ := hTo k g1 (by omega)
      obtain ⟨e1, e2⟩ := a3 k (by omega) (by omega)
      obtain ⟨s1, s2⟩ := hS k g1 (by omega)
      have v1 : ν (14 + 4 * k) = _ := (a2 (14 + 4 * k) (by omega) (by omega)).trans s1
      have v2 : ν (15 + 4 * k) = _ := (a2 (15 + 4 * k) (by omega) (by omega)).trans s2
      have hfc := fcp_all hU ⟨by omega, by omega⟩ ⟨by omega, by omega⟩ t2 s2
      have x1 := e1.trans t1
      have x2 := e2.trans t2
      refine p_iload (pc := 3) C dX4_sailVoyage_3 rfl ?_
      refine p_aload_n (pc := 5) C dX4_sailVoyage_5 rfl ?_
      refine p_get (pc := 6) C fl_X4_86 dX4_sailVoyage_6 (by first | exact ha | exact hc | exact ⟨by omega, by omega⟩) (by (repeat refine mg_n (by omega) ?_); first | assumption | exact mup_s _ _ _) (by rfl) ?_
      refine p_icmp_ge (pc := 9) (tgt := 35) C dX4_sailVoyage_9 (by decide) (fun h => by exfalso; omega) (fun c_9 => ?_)
      refine p_aload_n (pc := 12) C dX4_sailVoyage_12 rfl ?_
      refine p_get (pc := 13) C fl_X4_21 dX4_sailVoyage_13 (by first | exact ha | exact hc | exact ⟨by omega, by omega⟩) (by (repeat refine mg_n (by omega) ?_); first | assumption | exact mup_s _ _ _) (by rfl) ?_
      refine p_iload (pc := 16) C dX4_sailVoyage_16 rfl ?_
      refine p_aald (pc := 18) C dX4_sailVoyage_18 (by first | exact ha | exact hc | exact ⟨by omega, by omega⟩) (by (repeat refine mg_n (by omega) ?_); first | assumption | exact mup_s _ _ _) (by decide) (by omega) (by rfl) ?_
      refine p_aload_n (pc := 19) C dX4_sailVoyage_19 rfl ?_
      refine p_get (pc := 20) C fl_X4_17 dX4_sailVoyage_20 (by first | exact ha | exact hc | exact ⟨by omega, by omega⟩) (by (repeat refine mg_n (by omega) ?_); first | assumption | exact mup_s _ _ _) (by rfl) ?_
      refine p_iload (pc := 23) C dX4_sailVoyage_23 rfl ?_
      refine p_aald (pc := 25) C dX4_sailVoyage_25 (by first | exact ha | exact hc | exact ⟨by omega, by omega⟩) (by (repeat refine mg_n (by omega) ?_); first | assumption | exact mup_s _ _ _) (by decide) (by omega) (by rfl) ?_
      refine p_callVU (pc := 26) C ln_X4_303 dX4_sailVoyage_26 (k_X1_becomeLike ⟨by omega, by omega⟩ x1 ⟨by omega, by omega⟩ x2 ⟨by omega, by omega⟩ v1 ⟨by omega, by omega⟩ v2 (by omega) (by omega) (by omega)) (by first | exact ha | exact hc | exact ⟨by omega, by omega⟩) (by (repeat refine mg_n (by omega) ?_); first | assumption | exact mup_s _ _ _) rfl rfl rfl rfl (Nat.le_of_ble_eq_true rfl) ?_
      refine p_iinc (pc := 29) (ls' := [(4, _), (0, _), (1, _), (2, _), (3, _)]) C dX4_sailVoyage_29 (by decide) rfl ⟨by omega, by omega⟩ rfl ?_
      refine p_goto (pc := 32) (tgt := 3) C dX4_sailVoyage_32 (by decide) ?_
      refine ih (k + 1) _ (by omega) (by omega) ⟨⟨fun j j0 j1 => ?_, fun x x0 x1 => mg_n (by omega) (mg_n (by omega) (a2 x x0 (by omega)))⟩, fun j j0 j1 => ⟨mg_n (by omega) (mg_n (by omega) (a3 j (by omega) j1).1), mg_n (by omega) (mg_n (by omega) (a3 j (by omega) j1).2)⟩⟩ (mg_n (by omega) (mg_n (by omega) g5))
      by_cases e : j = k
      · subst e
        rw [show fcp (ca j) q5 0 0 4 = ca j from hfc, show 16 + 1 + 4 * j = 17 + 4 * j by omega]
        exact ⟨mg_n (by omega) (mup_s _ _ _), mup_s _ _ _⟩
      · exact ⟨mg_n (by omega) (mg_n (by omega) (a1 j j0 (by omega)).1), mg_n (by omega) (mg_n (by omega) (a1 j j0 (by omega)).2)⟩
  refine p_iconst (pc := 0) C dX4_sailVoyage_0 (by decide) ?_
  refine p_istore (pc := 1) (ls' := [(4, _), (0, _), (1, _), (2, _), (3, _)]) C dX4_sailVoyage_1 (by decide) rfl ?_
  exact L1 ns.toNat 0 μ (by omega) (by omega) ⟨⟨fun j j0 j1 => by omega, fun x _ _ => rfl⟩, fun j _ _ => ⟨rfl, rfl⟩⟩ rfl
