/-- what a text makes of the old tables -/
def tkR (F : Int → Int) (fr : Int) (rg : Int → Int) (p : Int) : Int → Int := fun j => if 0 ≤ j ∧ j < p then F (fr + 1 + j) - 48 else rg j
def tkS (F : Int → Int) (fr q d : Int) (old : Int → Int) (k : Int) : Int → Int := fun j => if 0 ≤ j ∧ j < k then F (fr + (1 + q + 9 * j) + d) - 48 else old j
def tkK (F : Int → Int) (fr q : Int) (old : Int → Int) (k : Int) : Int → Int := fun j => if 0 ≤ j ∧ j < k then kbc (F (fr + (1 + q + 9 * j) + 1)) else old j
def tkC (F : Int → Int) (fr q : Int) (old : Int → Int → Int) (k : Int) : Int → Int → Int := fun j => if 0 ≤ j ∧ j < k then fup (fup (fup (fup (old j) 0 (F (fr + (1 + q + 9 * j) + 5 + 0) - 48)) 1 (F (fr + (1 + q + 9 * j) + 5 + 1) - 48)) 2 (F (fr + (1 + q + 9 * j) + 5 + 2) - 48)) 3 (F (fr + (1 + q + 9 * j) + 5 + 3) - 48) else old j
def TI (F : Int → Int) (fr q day nr tr fl : Int) (rg kd nm sg pt : Int → Int) (ca : Int → Int → Int) (k : Int) (μ ν : Int → ME) : Prop :=
  ν 0 = oY q k day nr tr fl ∧ ν 1 = mA 6 (tkR F fr rg q) ∧
  (∀ j, 0 ≤ j → j < 5 → ν (14 + 4 * j) = oS (tkK F fr q kd k j) (tkS F fr q 2 nm k j) (tkS F fr q 3 sg k j) (tkS F fr q 4 pt k j) (15 + 4 * j) ∧ ν (15 + 4 * j) = mA 4 (tkC F fr q ca k j)) ∧
  (∀ x, x ≠ 0 → x ≠ 1 → (x < 14 ∨ 34 ≤ x ∨ ((x - 14) % 4 ≠ 0 ∧ (x - 14) % 4 ≠ 1)) → ν x = μ x)
theorem tkR_0 (F : Int → Int) (fr : Int) (rg : Int → Int) : tkR F fr rg 0 = rg := by funext j; unfold tkR; rw [if_neg (by omega)]
theorem tkR_s (F : Int → Int) (fr : Int) (rg : Int → Int) (p : Int) (h : 0 ≤ p) : fup (tkR F fr rg p) p (F (fr + 1 + p) - 48) = tkR F fr rg (p + 1) := by
  funext j; unfold fup tkR
  by_cases e : j = p
  · subst e; rw [if_pos rfl, if_pos (by omega)]
  · rw [if_neg e]
    by_cases e2 : 0 ≤ j ∧ j < p
    · rw [if_pos e2, if_pos (by omega)]
    · rw [if_neg e2, if_neg (by omega)]
theorem tkS_n (F : Int → Int) (fr q d : Int) (old : Int → Int) {k j : Int} (h : ¬ (0 ≤ j ∧ j < k)) : tkS F fr q d old k j = old j := if_neg h
theorem tkS_y (F : Int → Int) (fr q d : Int) (old : Int → Int) {k j : Int} (h : 0 ≤ j ∧ j < k) : tkS F fr q d old k j = F (fr + (1 + q + 9 * j) + d) - 48 := if_pos h
theorem tkS_e (F : Int → Int) (fr q d : Int) (old : Int → Int) {k j : Int} (h : j ≠ k) : tkS F fr q d old (k + 1) j = tkS F fr q d old k j := by
  unfold tkS
  by_cases e : 0 ≤ j ∧ j < k
  · rw [if_pos e, if_pos (by omega)]
  · rw [if_neg e, if_neg (by omega)]
theorem tkK_e (F : Int → Int) (fr q : Int) (old : Int → Int) {k j : Int} (h : j ≠ k) : tkK F fr q old (k + 1) j = tkK F fr q old k j := by
  unfold tkK
  by_cases e : 0 ≤ j ∧ j < k
  · rw [if_pos e, if_pos (by omega)]
  · rw [if_neg e, if_neg (by omega)]
theorem tkC_e (F : Int → Int) (fr q : Int) (old : Int → Int → Int) {k j : Int} (h : j ≠ k) : tkC F fr q old (k + 1) j = tkC F fr q old k j := by
  unfold tkC
  by_cases e : 0 ≤ j ∧ j < k
  · rw [if_pos e, if_pos (by omega)]
  · rw [if_neg e, if_neg (by omega)]
theorem TI_step {F : Int → Int} {fr q day nr tr fl : Int} {rg kd nm sg pt : Int → Int} {ca : Int → Int → Int} {k : Int} {μ ν : Int → ME} (h : TI F fr q day nr tr fl rg kd nm sg pt ca k μ ν) (h0 : 0 ≤ k) (h5 : k < 5) :
    TI F fr q day nr tr fl rg kd nm sg pt ca (k + 1) μ (mup (mup (mup ν (14 + 4 * k) (oS (kbc (F (fr + (1 + q + 9 * k) + 1))) (F (fr + (1 + q + 9 * k) + 2) - 48) (F (fr + (1 + q + 9 * k) + 3) - 48) (F (fr + (1 + q + 9 * k) + 4) - 48) (15 + 4 * k))) (15 + 4 * k) (mA 4 (fup (fup (fup (fup (ca k) 0 (F (fr + (1 + q + 9 * k) + 5 + 0) - 48)) 1 (F (fr + (1 + q + 9 * k) + 5 + 1) - 48)) 2 (F (fr + (1 + q + 9 * k) + 5 + 2) - 48)) 3 (F (fr + (1 + q + 9 * k) + 5 + 3) - 48)))) 0 (oY q (k + 1) day nr tr fl)) := by
  obtain ⟨a0, a1, a2, a3⟩ := h
  refine ⟨mup_s _ _ _, mg_n (by omega) (mg_n (by omega) (mg_n (by omega) a1)), fun j j0 j5 => ?_, fun x x0 x1 x2 => mg_n x0 (mg_n (by omega) (mg_n (by omega) (a3 x x0 x1 x2)))⟩
  by_cases e : j = k
  · subst e
    have t1 : ∀ (d : Int) (old : Int → Int), tkS F fr q d old (j + 1) j = F (fr + (1 + q + 9 * j) + d) - 48 := fun d old => if_pos (by omega)
    have t2 : tkK F fr q kd (j + 1) j = kbc (F (fr + (1 + q + 9 * j) + 1)) := if_pos (by omega)
    have t3 : tkC F fr q ca (j + 1) j = _ := if_pos (by omega)
    rw [t1, t1, t1, t2, t3]
    exact ⟨mg_n (by omega) (mg_n (by omega) (mup_s _ _ _)), mg_n (by omega) (mup_s _ _ _)⟩
  · rw [tkS_e _ _ _ _ _ e, tkS_e _ _ _ _ _ e, tkS_e _ _ _ _ _ e, tkK_e _ _ _ _ e, tkC_e _ _ _ _ e]
    exact ⟨mg_n (by omega) (mg_n (by omega) (mg_n (by omega) (a2 j j0 j5).1)), mg_n (by omega) (mg_n (by omega) (mg_n (by omega) (a2 j j0 j5).2))⟩

set_option maxHeartbeats 4000000 in
set_option maxRecDepth 100000 in
theorem k_X4_takeText {K : KX} {d : Nat} {μ : Int → ME} {fr n q m : Int} {a c th ln le : Int} {f : Int → Int} (ha : IR a) (hr1 : μ a = oR th ln le c) (hc : IR c) (hr2 : μ c = mA 60 f) (hl : 0 ≤ le ∧ le ≤ 60) (ha3 : 34 ≤ a) (hc3 : 34 ≤ c) {np ns day nr tr fl : Int} (h0 : μ 0 = oY np ns day nr tr fl) {rg : Int → Int} (hr : μ 1 = mA 6 rg) (hF : μ 2 = mR 0 5 (fun k => some (14 + 4 * k))) {kd nm sg pt : Int → Int} {ca : Int → Int → Int} (hS : ∀ k, 0 ≤ k → k < 5 → μ (14 + 4 * k) = oS (kd k) (nm k) (sg k) (pt k) (15 + 4 * k) ∧ μ (15 + 4 * k) = mA 4 (ca k)) (hf : 0 ≤ fr ∧ fr ≤ 60) (hq : cpN (cAt le f) fr n 0 6 = q) (hok : okT (cAt le f) fr n q m) : Ct K (d + 4) yX4_takeText cX4_takeText 5 none [vR 0, vR a, vI fr, vI n] μ (pV (fun μ' => TI (cAt le f) fr q 0 0 tr fl rg kd nm sg pt ca m μ μ')) := by
  refine Ct.of (by decide) (Nat.le_of_ble_eq_true rfl) (fun X C => ?_)
  obtain ⟨t1, t2, t3, t4, t5, t6⟩ := hok
  have L2 : ∀ (t : Nat) (k : Int) (ν : Int → ME), 0 ≤ k → m - k = (t : Int) → TI (cAt le f) fr q day nr tr fl rg kd nm sg pt ca k μ ν → PW K X 5 (QM K X (pV (fun μ' => TI (cAt le f) fr q 0 0 tr fl rg kd nm sg pt ca m μ μ'))) 58 [(4, vI (1 + q + 9 * k)), (0, vR 0), (1, vR a), (2, vI fr), (3, vI n)] [] ν := by
    intro t
    induction t with
    | zero =>
      intro k ν h1 h2 h3
      have ek : k = m := by omega
      subst ek
      obtain ⟨a0, a1, a2, a3⟩ := id h3
      refine p_aload_n (pc := 58) C dX4_takeText_58 rfl ?_
      refine p_get (pc := 59) C fl_X4_86 dX4_takeText_59 (by first | exact ha | exact hc | exact ⟨by omega, by omega⟩) (by (repeat refine mg_n (by omega) ?_); first | assumption | exact mup_s _ _ _) (by rfl) ?_
      refine p_iconst (pc := 62) C dX4_takeText_62 (by decide) ?_
      refine p_icmp_ge (pc := 63) (tgt := 105) C dX4_takeText_63 (by decide) (fun c_63 => ?_) (fun c_63 => ?_)
      · refine p_aload_n (pc := 105) C dX4_takeText_105 rfl ?_
        refine p_iconst (pc := 106) C dX4_takeText_106 (by decide) ?_
        refine p_putL (pc := 107) (fs' := [_, _, _, _, _, _, _, _, _, _, _, _, _, _, _, _]) C fp_X4_137 dX4_takeText_107 (by first | exact ha | exact hc | exact ⟨by omega, by omega⟩) (by (repeat refine mg_n (by omega) ?_); first | assumption | exact mup_s _ _ _) (by exact Nat.le_of_ble_eq_true rfl) (by rfl) ?_
        try refine p_mem (mup_mup _ _ _ _) ?_
        refine p_aload_n (pc := 110) C dX4_takeText_110 rfl ?_
        refine p_iconst (pc := 111) C dX4_takeText_111 (by decide) ?_
        refine p_putL (pc := 112) (fs' := [_, _, _, _, _, _, _, _, _, _, _, _, _, _, _, _]) C fp_X4_181 dX4_takeText_112 (by first | exact ha | exact hc | exact ⟨by omega, by omega⟩) (by (repeat refine mg_n (by omega) ?_); first | assumption | exact mup_s _ _ _) (by exact Nat.le_of_ble_eq_true rfl) (by rfl) ?_
        try refine p_mem (mup_mup _ _ _ _) ?_
        refine p_vret (pc := 115) C dX4_takeText_115 ?_
        exact ⟨rfl, mup_s _ _ _, mg_n (by omega) a1, fun j j0 j5 => ⟨mg_n (by omega) (a2 j j0 j5).1, mg_n (by omega) (a2 j j0 j5).2⟩, fun x x0 x1 x2 => mg_n x0 (a3 x x0 x1 x2)⟩
      · refine p_iload (pc := 66) C dX4_takeText_66 rfl ?_
        refine p_iload_n (pc := 68) C dX4_takeText_68 rfl ?_
        refine p_icmp_ge (pc := 69) (tgt := 105) C dX4_takeText_69 (by decide) (fun c_69 => ?_) (fun h => by exfalso; omega)
        refine p_aload_n (pc := 105) C dX4_takeText_105 rfl ?_
        refine p_iconst (pc := 106) C dX4_takeText_106 (by decide) ?_
        refine p_putL (pc := 107) (fs' := [_, _, _, _, _, _, _, _, _, _, _, _, _, _, _, _]) C fp_X4_137 dX4_takeText_107 (by first | exact ha | exact hc | exact ⟨by omega, by omega⟩) (by (repeat refine mg_n (by omega) ?_); first | assumption | exact mup_s _ _ _) (by exact Nat.le_of_ble_eq_true rfl) (by rfl) ?_
        try refine p_mem (mup_mup _ _ _ _) ?_
        refine p_aload_n (pc := 110) C dX4_takeText_110 rfl ?_
        refine p_iconst (pc := 111) C dX4_takeText_111 (by decide) ?_
        refine p_putL (pc := 112) (fs' := [_, _, _, _, _, _, _, _, _, _, _, _, _, _, _, _]) C fp_X4_181 dX4_takeText_112 (by first | exact ha | exact hc | exact ⟨by omega, by omega⟩) (by (repeat refine mg_n (by omega) ?_); first | assumption | exact mup_s _ _ _) (by exact Nat.le_of_ble_eq_true rfl) (by rfl) ?_
        try refine p_mem (mup_mup _ _ _ _) ?_
        refine p_vret (pc := 115) C dX4_takeText_115 ?_
        exact ⟨rfl, mup_s _ _ _, mg_n (by omega) a1, fun j j0 j5 => ⟨mg_n (by omega) (a2 j j0 j5).1, mg_n (by omega) (a2 j j0 j5).2⟩, fun x x0 x1 x2 => mg_n x0 (a3 x x0 x1 x2)⟩
    | succ t ih =>
      intro k ν h1 h2 h3
      obtain ⟨a0, a1, a2, a3⟩ := id h3
      obtain ⟨s1, s2⟩ := a2 k h1 (by omega)
      have s3 : tkC (cAt le f) fr q ca k k = ca k := if_neg (by omega)
      rw [s3] at s2
      have u2 : ν 2 = mR 0 5 (fun k => some (14 + 4 * k)) := (a3 2 (by omega) (by omega) (by omega)).trans hF
      have ua : ν a = oR th ln le c := (a3 a (by omega) (by omega) (by omega)).trans hr1
      have uc : ν c = mA 60 f := (a3 c (by omega) (by omega) (by omega)).trans hr2
      refine p_aload_n (pc := 58) C dX4_takeText_58 rfl ?_
      refine p_get (pc := 59) C fl_X4_86 dX4_takeText_59 (by first | exact ha | exact hc | exact ⟨by omega, by omega⟩) (by (repeat refine mg_n (by omega) ?_); first | assumption | exact mup_s _ _ _) (by rfl) ?_
      refine p_iconst (pc := 62) C dX4_takeText_62 (by decide) ?_
      refine p_icmp_ge (pc := 63) (tgt := 105) C dX4_takeText_63 (by decide) (fun h => by exfalso; omega) (fun c_63 => ?_)
      refine p_iload (pc := 66) C dX4_takeText_66 rfl ?_
      refine p_iload_n (pc := 68) C dX4_takeText_68 rfl ?_
      refine p_icmp_ge (pc := 69) (tgt := 105) C dX4_takeText_69 (by decide) (fun h => by exfalso; omega) (fun c_69 => ?_)
      refine p_aload_n (pc := 72) C dX4_takeText_72 rfl ?_
      refine p_get (pc := 73) C fl_X4_17 dX4_takeText_73 (by first | exact ha | exact hc | exact ⟨by omega, by omega⟩) (by (repeat refine mg_n (by omega) ?_); first | assumption | exact mup_s _ _ _) (by rfl) ?_
      refine p_aload_n (pc := 76) C dX4_takeText_76 rfl ?_
      refine p_get (pc := 77) C fl_X4_86 dX4_takeText_77 (by first | exact ha | exact hc | exact ⟨by omega, by omega⟩) (by (repeat refine mg_n (by omega) ?_); first | assumption | exact mup_s _ _ _) (by rfl) ?_
      refine p_aald (pc := 80) C dX4_takeText_80 (by first | exact ha | exact hc | exact ⟨by omega, by omega⟩) (by (repeat refine mg_n (by omega) ?_); first | assumption | exact mup_s _ _ _) (by decide) (by omega) (by rfl) ?_
      refine p_aload_n (pc := 81) C dX4_takeText_81 rfl ?_
      refine p_iload_n (pc := 82) C dX4_takeText_82 rfl ?_
      refine p_iload (pc := 83) C dX4_takeText_83 rfl ?_
      refine p_iadd (pc := 85) C dX4_takeText_85 ⟨by omega, by omega⟩ ?_
      refine p_callSU (pc := 86) C ln_X4_290 dX4_takeText_86 (k_X4_takeShip (q := q) ha ua hc uc hl ⟨by omega, by omega⟩ s1 ⟨by omega, by omega⟩ s2 (by omega) (by omega) (by omega) (by omega) (by omega) (by omega) (by omega) (fun j j0 j1 => t6 k j h1 (by omega) j0 j1)) rfl rfl (Nat.le_of_ble_eq_true rfl) ?_
      refine p_aload_n (pc := 89) C dX4_takeText_89 rfl ?_
      refine p_dup (pc := 90) C dX4_takeText_90 rfl ?_
      refine p_get (pc := 91) C fl_X4_86 dX4_takeText_91 (by first | exact ha | exact hc | exact ⟨by omega, by omega⟩) (by (repeat refine mg_n (by omega) ?_); first | assumption | exact mup_s _ _ _) (by rfl) ?_
      refine p_iconst (pc := 94) C dX4_takeText_94 (by decide) ?_
      refine p_iadd (pc := 95) C dX4_takeText_95 ⟨by omega, by omega⟩ ?_
      refine p_putL (pc := 96) (fs' := [_, _, _, _, _, _, _, _, _, _, _, _, _, _, _, _]) C fp_X4_86 dX4_takeText_96 (by first | exact ha | exact hc | exact ⟨by omega, by omega⟩) (by (repeat refine mg_n (by omega) ?_); first | assumption | exact mup_s _ _ _) (by exact Nat.le_of_ble_eq_true rfl) (by rfl) ?_
      try refine p_mem (mup_mup _ _ _ _) ?_
      refine p_iinc (pc := 99) (ls' := [(4, _), (0, _), (1, _), (2, _), (3, _)]) C dX4_takeText_99 (by decide) rfl ⟨by omega, by omega⟩ rfl ?_
      refine p_goto (pc := 102) (tgt := 58) C dX4_takeText_102 (by decide) ?_
      refine p_ls (by rw [show 1 + q + 9 * k + 9 = 1 + q + 9 * (k + 1) by omega]) ?_
      exact ih (k + 1) _ (by omega) (by omega) (TI_step h3 h1 (by omega))
  have L1 : ∀ (t : Nat) (p : Int), 0 ≤ p → q - p = (t : Int) → PW K X 5 (QM K X (pV (fun μ' => TI (cAt le f) fr q 0 0 tr fl rg kd nm sg pt ca m μ μ'))) 13 [(4, vI p), (0, vR 0), (1, vR a), (2, vI fr), (3, vI n)] [] (mup (mup μ 0 (oY q ns day nr tr fl)) 1 (mA 6 (tkR (cAt le f) fr rg p))) := by
    intro t
    induction t with
    | zero =>
      intro p h1 h2
      have ek : p = q := by omega
      subst ek
      refine p_iload (pc := 13) C dX4_takeText_13 rfl ?_
      refine p_aload_n (pc := 15) C dX4_takeText_15 rfl ?_
      refine p_get (pc := 16) C fl_X4_162 dX4_takeText_16 (by first | exact ha | exact hc | exact ⟨by omega, by omega⟩) (by (repeat refine mg_n (by omega) ?_); first | assumption | exact mup_s _ _ _) (by rfl) ?_
      refine p_icmp_ge (pc := 19) (tgt := 45) C dX4_takeText_19 (by decide) (fun c_19 => ?_) (fun h => by exfalso; omega)
      refine p_iconst (pc := 45) C dX4_takeText_45 (by decide) ?_
      refine p_aload_n (pc := 46) C dX4_takeText_46 rfl ?_
      refine p_get (pc := 47) C fl_X4_162 dX4_takeText_47 (by first | exact ha | exact hc | exact ⟨by omega, by omega⟩) (by (repeat refine mg_n (by omega) ?_); first | assumption | exact mup_s _ _ _) (by rfl) ?_
      refine p_iadd (pc := 50) C dX4_takeText_50 ⟨by omega, by omega⟩ ?_
      refine p_istore (pc := 51) (ls' := [(4, _), (0, _), (1, _), (2, _), (3, _)]) C dX4_takeText_51 (by decide) rfl ?_
      refine p_aload_n (pc := 53) C dX4_takeText_53 rfl ?_
      refine p_iconst (pc := 54) C dX4_takeText_54 (by decide) ?_
      refine p_putL (pc := 55) (fs' := [_, _, _, _, _, _, _, _, _, _, _, _, _, _, _, _]) C fp_X4_86 dX4_takeText_55 (by first | exact ha | exact hc | exact ⟨by omega, by omega⟩) (by (repeat refine mg_n (by omega) ?_); first | assumption | exact mup_s _ _ _) (by exact Nat.le_of_ble_eq_true rfl) (by rfl) ?_
      try refine p_mem (mup_mup _ _ _ _) ?_
      refine p_ls (by rw [show 1 + p = 1 + p + 9 * 0 by omega]) ?_
      refine L2 m.toNat 0 _ (by omega) (by omega) ⟨mup_s _ _ _, mg_n (by omega) (mup_s _ _ _), fun j j0 j5 => ?_, fun x x0 x1 x2 => mg_n x0 (mg_n x1 (mg_n x0 rfl))⟩
      rw [tkS_n _ _ _ _ _ (by omega), tkS_n _ _ _ _ _ (by omega), tkS_n _ _ _ _ _ (by omega), show tkK (cAt le f) fr p kd 0 j = kd j from if_neg (by omega), show tkC (cAt le f) fr p ca 0 j = ca j from if_neg (by omega)]
      exact ⟨mg_n (by omega) (mg_n (by omega) (mg_n (by omega) (hS j j0 j5).1)), mg_n (by omega) (mg_n (by omega) (mg_n (by omega) (hS j j0 j5).2))⟩
    | succ t ih =>
      intro p h1 h2
      refine p_iload (pc := 13) C dX4_takeText_13 rfl ?_
      refine p_aload_n (pc := 15) C dX4_takeText_15 rfl ?_
      refine p_get (pc := 16) C fl_X4_162 dX4_takeText_16 (by first | exact ha | exact hc | exact ⟨by omega, by omega⟩) (by (repeat refine mg_n (by omega) ?_); first | assumption | exact mup_s _ _ _) (by rfl) ?_
      refine p_icmp_ge (pc := 19) (tgt := 45) C dX4_takeText_19 (by decide) (fun h => by exfalso; omega) (fun c_19 => ?_)
      refine p_aload_n (pc := 22) C dX4_takeText_22 rfl ?_
      refine p_get (pc := 23) C fl_X4_11 dX4_takeText_23 (by first | exact ha | exact hc | exact ⟨by omega, by omega⟩) (by (repeat refine mg_n (by omega) ?_); first | assumption | exact mup_s _ _ _) (by rfl) ?_
      refine p_iload (pc := 26) C dX4_takeText_26 rfl ?_
      refine p_aload_n (pc := 28) C dX4_takeText_28 rfl ?_
      refine p_iload_n (pc := 29) C dX4_takeText_29 rfl ?_
      refine p_iconst (pc := 30) C dX4_takeText_30 (by decide) ?_
      refine p_iadd (pc := 31) C dX4_takeText_31 ⟨by omega, by omega⟩ ?_
      refine p_iload (pc := 32) C dX4_takeText_32 rfl ?_
      refine p_iadd (pc := 34) C dX4_takeText_34 ⟨by omega, by omega⟩ ?_
      refine p_callVF (pc := 35) C ln_X4_287 dX4_takeText_35 (k_X0_digitAt ha (by (repeat refine mg_n (by omega) ?_); first | assumption | exact mup_s _ _ _) hc (by (repeat refine mg_n (by omega) ?_); first | assumption | exact mup_s _ _ _) hl (by have := t5 p h1 (by omega); omega)) (by first | exact ha | exact hc | exact ⟨by omega, by omega⟩) (by (repeat refine mg_n (by omega) ?_); first | assumption | exact mup_s _ _ _) rfl rfl rfl rfl (Nat.le_of_ble_eq_true rfl) ?_
      refine p_iast (pc := 38) C dX4_takeText_38 (by first | exact ha | exact hc | exact ⟨by omega, by omega⟩) (by (repeat refine mg_n (by omega) ?_); first | assumption | exact mup_s _ _ _) (by omega) ?_
      try refine p_mem (mup_mup _ _ _ _) ?_
      refine p_iinc (pc := 39) (ls' := [(4, _), (0, _), (1, _), (2, _), (3, _)]) C dX4_takeText_39 (by decide) rfl ⟨by omega, by omega⟩ rfl ?_
      refine p_goto (pc := 42) (tgt := 13) C dX4_takeText_42 (by decide) ?_
      refine p_mem (by rw [tkR_s _ _ _ _ h1]) (ih (p + 1) (by omega) (by omega))
  refine p_aload_n (pc := 0) C dX4_takeText_0 rfl ?_
  refine p_aload_n (pc := 1) C dX4_takeText_1 rfl ?_
  refine p_iload_n (pc := 2) C dX4_takeText_2 rfl ?_
  refine p_iload_n (pc := 3) C dX4_takeText_3 rfl ?_
  refine p_callSF (pc := 4) C ln_X4_270 dX4_takeText_4 (k_X4_countPorts ha hr1 hc hr2 hl hf (by omega)) rfl rfl (Nat.le_of_ble_eq_true rfl) ?_
  refine p_top hq ?_
  refine p_putL (pc := 7) (fs' := [_, _, _, _, _, _, _, _, _, _, _, _, _, _, _, _]) C fp_X4_162 dX4_takeText_7 (by first | exact ha | exact hc | exact ⟨by omega, by omega⟩) (by (repeat refine mg_n (by omega) ?_); first | assumption | exact mup_s _ _ _) (by exact Nat.le_of_ble_eq_true rfl) (by rfl) ?_
  try refine p_mem (mup_mup _ _ _ _) ?_
  refine p_iconst (pc := 10) C dX4_takeText_10 (by decide) ?_
  refine p_istore (pc := 11) (ls' := [(4, _), (0, _), (1, _), (2, _), (3, _)]) C dX4_takeText_11 (by decide) rfl ?_
  refine p_mem ?_ (L1 q.toNat 0 (by omega) (by omega))
  rw [tkR_0, mup_id (μ := mup μ 0 _) (a := 1) (mg_n (by omega) hr)]
