/-- whether readings i, i + 1, .. (t of them) are so, if reading j's ship bears br j -/
def soN (br rg rp rl : Int → Int) (i : Int) : Nat → Int
  | 0 => 1
  | t + 1 => if (if br i < rg (rp i) then 1 else 0) = rl i then soN br rg rp rl (i + 1) t else 0
def brK (k b : Int) (rs kd sg : Int → Int) : Int → Int := fun i => if rs i = k then b else brg (kd (rs i)) (sg (rs i))

set_option maxHeartbeats 4000000 in
set_option maxRecDepth 100000 in
theorem k_X4_readingsAreSo {K : KX} {d : Nat} {μ : Int → ME} {k b : Int} {np ns day nr tr fl : Int} (h0 : μ 0 = oY np ns day nr tr fl) {rg : Int → Int} (hr : μ 1 = mA 6 rg) (hnp : np ≤ 6) (hF : μ 2 = mR 0 5 (fun k => some (14 + 4 * k))) {kd nm sg pt : Int → Int} {ca : Int → Int → Int} (hS : ∀ k, 0 ≤ k → k < 5 → μ (14 + 4 * k) = oS (kd k) (nm k) (sg k) (pt k) (15 + 4 * k) ∧ μ (15 + 4 * k) = mA 4 (ca k)) {rs rp rl : Int → Int} (hrs : μ 10 = mA 8 rs) (hrp : μ 11 = mA 8 rp) (hrl : μ 12 = mA 8 rl) (hns : ns ≤ 5) (hnr : 0 ≤ nr ∧ nr ≤ 8) (hR : ∀ i, 0 ≤ i → i < nr → (0 ≤ rs i ∧ rs i < ns) ∧ (0 ≤ rp i ∧ rp i < np)) (hsg : ∀ k, 0 ≤ k → k < ns → 0 ≤ sg k ∧ sg k ≤ 9) : Ct K (d + 2) yX4_readingsAreSo cX4_readingsAreSo 6 (some .boolean) [vR 0, vI k, vI b] μ (pF (vI (if soN (brK k b rs kd sg) rg rp rl 0 nr.toNat = 1 then 1 else 0)) μ) := by
  refine Ct.of (by decide) (Nat.le_of_ble_eq_true rfl) (fun X C => ?_)
  have L : ∀ (t : Nat) (i : Int), 0 ≤ i → nr - i = (t : Int) → soN (brK k b rs kd sg) rg rp rl i t = soN (brK k b rs kd sg) rg rp rl 0 nr.toNat → PW K X 6 (QM K X (pF (vI (if soN (brK k b rs kd sg) rg rp rl 0 nr.toNat = 1 then 1 else 0)) μ)) 2 [(3, vI i), (0, vR 0), (1, vI k), (2, vI b)] [] μ := by
    intro t
    induction t with
    | zero =>
      intro i h1 h2 h3
      refine p_iload_n (pc := 2) C dX4_readingsAreSo_2 rfl ?_
      refine p_aload_n (pc := 3) C dX4_readingsAreSo_3 rfl ?_
      refine p_get (pc := 4) C fl_X4_181 dX4_readingsAreSo_4 ⟨by omega, by omega⟩ (by (repeat refine mg_n (by omega) ?_); first | assumption | exact mup_s _ _ _) (by rfl) ?_
      refine p_icmp_ge (pc := 7) (tgt := 82) C dX4_readingsAreSo_7 (by decide) (fun c_7 => ?_) (fun h => by exfalso; omega)
      refine p_iconst (pc := 82) C dX4_readingsAreSo_82 (by decide) ?_
      refine p_zret (pc := 83) C dX4_readingsAreSo_83 (by first | exact Or.inl rfl | exact Or.inr rfl | (split <;> simp)) ?_
      exact ⟨by rw [if_pos (by rw [← h3]; rfl)], rfl⟩
    | succ t ih =>
      intro i h1 h2 h3
      obtain ⟨⟨r1, r2⟩, r3, r4⟩ := hR i h1 (by omega)
      obtain ⟨s1, s2⟩ := hS (rs i) r1 (by omega)
      have s3 := hsg (rs i) r1 r2
      have e1 : brK k b rs kd sg i = (if rs i = k then b else brg (kd (rs i)) (sg (rs i))) := rfl
      rw [soN, e1] at h3
      refine p_iload_n (pc := 2) C dX4_readingsAreSo_2 rfl ?_
      refine p_aload_n (pc := 3) C dX4_readingsAreSo_3 rfl ?_
      refine p_get (pc := 4) C fl_X4_181 dX4_readingsAreSo_4 ⟨by omega, by omega⟩ (by (repeat refine mg_n (by omega) ?_); first | assumption | exact mup_s _ _ _) (by rfl) ?_
      refine p_icmp_ge (pc := 7) (tgt := 82) C dX4_readingsAreSo_7 (by decide) (fun h => by exfalso; omega) (fun c_7 => ?_)
      refine p_aload_n (pc := 10) C dX4_readingsAreSo_10 rfl ?_
      refine p_get (pc := 11) C fl_X4_41 dX4_readingsAreSo_11 ⟨by omega, by omega⟩ (by (repeat refine mg_n (by omega) ?_); first | assumption | exact mup_s _ _ _) (by rfl) ?_
      refine p_iload_n (pc := 14) C dX4_readingsAreSo_14 rfl ?_
      refine p_iald (pc := 15) C dX4_readingsAreSo_15 ⟨by omega, by omega⟩ (by (repeat refine mg_n (by omega) ?_); first | assumption | exact mup_s _ _ _) (by omega) ?_
      refine p_iload_n (pc := 16) C dX4_readingsAreSo_16 rfl ?_
      refine p_icmp_ne (pc := 17) (tgt := 24) C dX4_readingsAreSo_17 (by decide) (fun c_17 => ?_) (fun c_17 => ?_)
      · refine p_aload_n (pc := 24) C dX4_readingsAreSo_24 rfl ?_
        refine p_get (pc := 25) C fl_X4_17 dX4_readingsAreSo_25 ⟨by omega, by omega⟩ (by (repeat refine mg_n (by omega) ?_); first | assumption | exact mup_s _ _ _) (by rfl) ?_
        refine p_aload_n (pc := 28) C dX4_readingsAreSo_28 rfl ?_
        refine p_get (pc := 29) C fl_X4_41 dX4_readingsAreSo_29 ⟨by omega, by omega⟩ (by (repeat refine mg_n (by omega) ?_); first | assumption | exact mup_s _ _ _) (by rfl) ?_
        refine p_iload_n (pc := 32) C dX4_readingsAreSo_32 rfl ?_
        refine p_iald (pc := 33) C dX4_readingsAreSo_33 ⟨by omega, by omega⟩ (by (repeat refine mg_n (by omega) ?_); first | assumption | exact mup_s _ _ _) (by omega) ?_
        refine p_aald (pc := 34) C dX4_readingsAreSo_34 ⟨by omega, by omega⟩ (by (repeat refine mg_n (by omega) ?_); first | assumption | exact mup_s _ _ _) (by decide) (by omega) (by rfl) ?_
        refine p_callVF (pc := 35) C ln_X4_101 dX4_readingsAreSo_35 (k_X1_bearing ⟨by omega, by omega⟩ s1 (by omega)) ⟨by omega, by omega⟩ (by (repeat refine mg_n (by omega) ?_); first | assumption | exact mup_s _ _ _) rfl rfl rfl rfl (Nat.le_of_ble_eq_true rfl) ?_
        refine p_istore (pc := 38) (ls' := [(4, _), (3, _), (0, _), (1, _), (2, _)]) C dX4_readingsAreSo_38 (by decide) rfl ?_
        refine p_aload_n (pc := 40) C dX4_readingsAreSo_40 rfl ?_
        refine p_get (pc := 41) C fl_X4_11 dX4_readingsAreSo_41 ⟨by omega, by omega⟩ (by (repeat refine mg_n (by omega) ?_); first | assumption | exact mup_s _ _ _) (by rfl) ?_
        refine p_aload_n (pc := 44) C dX4_readingsAreSo_44 rfl ?_
        refine p_get (pc := 45) C fl_X4_44 dX4_readingsAreSo_45 ⟨by omega, by omega⟩ (by (repeat refine mg_n (by omega) ?_); first | assumption | exact mup_s _ _ _) (by rfl) ?_
        refine p_iload_n (pc := 48) C dX4_readingsAreSo_48 rfl ?_
        refine p_iald (pc := 49) C dX4_readingsAreSo_49 ⟨by omega, by omega⟩ (by (repeat refine mg_n (by omega) ?_); first | assumption | exact mup_s _ _ _) (by omega) ?_
        refine p_iald (pc := 50) C dX4_readingsAreSo_50 ⟨by omega, by omega⟩ (by (repeat refine mg_n (by omega) ?_); first | assumption | exact mup_s _ _ _) (by omega) ?_
        refine p_iload (pc := 51) C dX4_readingsAreSo_51 rfl ?_
        refine p_icmp_le (pc := 53) (tgt := 60) C dX4_readingsAreSo_53 (by decide) (fun c_53 => ?_) (fun c_53 => ?_)
        · refine p_iconst (pc := 60) C dX4_readingsAreSo_60 (by decide) ?_
          refine p_istore (pc := 61) (ls' := [(5, _), (4, _), (3, _), (0, _), (1, _), (2, _)]) C dX4_readingsAreSo_61 (by decide) rfl ?_
          refine p_iload (pc := 63) C dX4_readingsAreSo_63 rfl ?_
          refine p_aload_n (pc := 65) C dX4_readingsAreSo_65 rfl ?_
          refine p_get (pc := 66) C fl_X4_47 dX4_readingsAreSo_66 ⟨by omega, by omega⟩ (by (repeat refine mg_n (by omega) ?_); first | assumption | exact mup_s _ _ _) (by rfl) ?_
          refine p_iload_n (pc := 69) C dX4_readingsAreSo_69 rfl ?_
          refine p_iald (pc := 70) C dX4_readingsAreSo_70 ⟨by omega, by omega⟩ (by (repeat refine mg_n (by omega) ?_); first | assumption | exact mup_s _ _ _) (by omega) ?_
          refine p_icmp_eq (pc := 71) (tgt := 76) C dX4_readingsAreSo_71 (by decide) (fun c_71 => ?_) (fun c_71 => ?_)
          · refine p_iinc (pc := 76) (ls' := [(3, _), (5, _), (4, _), (0, _), (1, _), (2, _)]) C dX4_readingsAreSo_76 (by decide) rfl ⟨by omega, by omega⟩ rfl ?_
            refine p_goto (pc := 79) (tgt := 2) C dX4_readingsAreSo_79 (by decide) ?_
            refine p_pick [0, 3, 4, 5] (ls' := [(3, _), (0, _), (1, _), (2, _)]) rfl ?_
            exact ih (i + 1) (by omega) (by omega) (by
              first
                | (rw [if_pos (by omega)] at h3; exact h3)
                | (rw [if_pos (by rw [if_pos (by omega)]; omega)] at h3; exact h3)
                | (rw [if_pos (by rw [if_neg (by omega)]; omega)] at h3; exact h3))
          · refine p_iconst (pc := 74) C dX4_readingsAreSo_74 (by decide) ?_
            refine p_zret (pc := 75) C dX4_readingsAreSo_75 (by first | exact Or.inl rfl | exact Or.inr rfl | (split <;> simp)) ?_
            exact ⟨by rw [if_neg (by rw [← h3, if_neg (by first | omega | (rw [if_pos (by omega)]; omega) | (rw [if_neg (by omega)]; omega))]; decide)], rfl⟩
        · refine p_iconst (pc := 56) C dX4_readingsAreSo_56 (by decide) ?_
          refine p_goto (pc := 57) (tgt := 61) C dX4_readingsAreSo_57 (by decide) ?_
          refine p_istore (pc := 61) (ls' := [(5, _), (4, _), (3, _), (0, _), (1, _), (2, _)]) C dX4_readingsAreSo_61 (by decide) rfl ?_
          refine p_iload (pc := 63) C dX4_readingsAreSo_63 rfl ?_
          refine p_aload_n (pc := 65) C dX4_readingsAreSo_65 rfl ?_
          refine p_get (pc := 66) C fl_X4_47 dX4_readingsAreSo_66 ⟨by omega, by omega⟩ (by (repeat refine mg_n (by omega) ?_); first | assumption | exact mup_s _ _ _) (by rfl) ?_
          refine p_iload_n (pc := 69) C dX4_readingsAreSo_69 rfl ?_
          refine p_iald (pc := 70) C dX4_readingsAreSo_70 ⟨by omega, by omega⟩ (by (repeat refine mg_n (by omega) ?_); first | assumption | exact mup_s _ _ _) (by omega) ?_
          refine p_icmp_eq (pc := 71) (tgt := 76) C dX4_readingsAreSo_71 (by decide) (fun c_71 => ?_) (fun c_71 => ?_)
          · refine p_iinc (pc := 76) (ls' := [(3, _), (5, _), (4, _), (0, _), (1, _), (2, _)]) C dX4_readingsAreSo_76 (by decide) rfl ⟨by omega, by omega⟩ rfl ?_
            refine p_goto (pc := 79) (tgt := 2) C dX4_readingsAreSo_79 (by decide) ?_
            refine p_pick [0, 3, 4, 5] (ls' := [(3, _), (0, _), (1, _), (2, _)]) rfl ?_
            exact ih (i + 1) (by omega) (by omega) (by
              first
                | (rw [if_pos (by omega)] at h3; exact h3)
                | (rw [if_pos (by rw [if_pos (by omega)]; omega)] at h3; exact h3)
                | (rw [if_pos (by rw [if_neg (by omega)]; omega)] at h3; exact h3))
          · refine p_iconst (pc := 74) C dX4_readingsAreSo_74 (by decide) ?_
            refine p_zret (pc := 75) C dX4_readingsAreSo_75 (by first | exact Or.inl rfl | exact Or.inr rfl | (split <;> simp)) ?_
            exact ⟨by rw [if_neg (by rw [← h3, if_neg (by first | omega | (rw [if_pos (by omega)]; omega) | (rw [if_neg (by omega)]; omega))]; decide)], rfl⟩
      · refine p_iload_n (pc := 20) C dX4_readingsAreSo_20 rfl ?_
        refine p_goto (pc := 21) (tgt := 38) C dX4_readingsAreSo_21 (by decide) ?_
        refine p_istore (pc := 38) (ls' := [(4, _), (3, _), (0, _), (1, _), (2, _)]) C dX4_readingsAreSo_38 (by decide) rfl ?_
        refine p_aload_n (pc := 40) C dX4_readingsAreSo_40 rfl ?_
        refine p_get (pc := 41) C fl_X4_11 dX4_readingsAreSo_41 ⟨by omega, by omega⟩ (by (repeat refine mg_n (by omega) ?_); first | assumption | exact mup_s _ _ _) (by rfl) ?_
        refine p_aload_n (pc := 44) C dX4_readingsAreSo_44 rfl ?_
        refine p_get (pc := 45) C fl_X4_44 dX4_readingsAreSo_45 ⟨by omega, by omega⟩ (by (repeat refine mg_n (by omega) ?_); first | assumption | exact mup_s _ _ _) (by rfl) ?_
        refine p_iload_n (pc := 48) C dX4_readingsAreSo_48 rfl ?_
        refine p_iald (pc := 49) C dX4_readingsAreSo_49 ⟨by omega, by omega⟩ (by (repeat refine mg_n (by omega) ?_); first | assumption | exact mup_s _ _ _) (by omega) ?_
        refine p_iald (pc := 50) C dX4_readingsAreSo_50 ⟨by omega, by omega⟩ (by (repeat refine mg_n (by omega) ?_); first | assumption | exact mup_s _ _ _) (by omega) ?_
        refine p_iload (pc := 51) C dX4_readingsAreSo_51 rfl ?_
        refine p_icmp_le (pc := 53) (tgt := 60) C dX4_readingsAreSo_53 (by decide) (fun c_53 => ?_) (fun c_53 => ?_)
        · refine p_iconst (pc := 60) C dX4_readingsAreSo_60 (by decide) ?_
          refine p_istore (pc := 61) (ls' := [(5, _), (4, _), (3, _), (0, _), (1, _), (2, _)]) C dX4_readingsAreSo_61 (by decide) rfl ?_
          refine p_iload (pc := 63) C dX4_readingsAreSo_63 rfl ?_
          refine p_aload_n (pc := 65) C dX4_readingsAreSo_65 rfl ?_
          refine p_get (pc := 66) C fl_X4_47 dX4_readingsAreSo_66 ⟨by omega, by omega⟩ (by (repeat refine mg_n (by omega) ?_); first | assumption | exact mup_s _ _ _) (by rfl) ?_
          refine p_iload_n (pc := 69) C dX4_readingsAreSo_69 rfl ?_
          refine p_iald (pc := 70) C dX4_readingsAreSo_70 ⟨by omega, by omega⟩ (by (repeat refine mg_n (by omega) ?_); first | assumption | exact mup_s _ _ _) (by omega) ?_
          refine p_icmp_eq (pc := 71) (tgt := 76) C dX4_readingsAreSo_71 (by decide) (fun c_71 => ?_) (fun c_71 => ?_)
          · refine p_iinc (pc := 76) (ls' := [(3, _), (5, _), (4, _), (0, _), (1, _), (2, _)]) C dX4_readingsAreSo_76 (by decide) rfl ⟨by omega, by omega⟩ rfl ?_
            refine p_goto (pc := 79) (tgt := 2) C dX4_readingsAreSo_79 (by decide) ?_
            refine p_pick [0, 3, 4, 5] (ls' := [(3, _), (0, _), (1, _), (2, _)]) rfl ?_
            exact ih (i + 1) (by omega) (by omega) (by
              first
                | (rw [if_pos (by omega)] at h3; exact h3)
                | (rw [if_pos (by rw [if_pos (by omega)]; omega)] at h3; exact h3)
                | (rw [if_pos (by rw [if_neg (by omega)]; omega)] at h3; exact h3))
          · refine p_iconst (pc := 74) C dX4_readingsAreSo_74 (by decide) ?_
            refine p_zret (pc := 75) C dX4_readingsAreSo_75 (by first | exact Or.inl rfl | exact Or.inr rfl | (split <;> simp)) ?_
            exact ⟨by rw [if_neg (by rw [← h3, if_neg (by first | omega | (rw [if_pos (by omega)]; omega) | (rw [if_neg (by omega)]; omega))]; decide)], rfl⟩
        · refine p_iconst (pc := 56) C dX4_readingsAreSo_56 (by decide) ?_
          refine p_goto (pc := 57) (tgt := 61) C dX4_readingsAreSo_57 (by decide) ?_
          refine p_istore (pc := 61) (ls' := [(5, _), (4, _), (3, _), (0, _), (1, _), (2, _)]) C dX4_readingsAreSo_61 (by decide) rfl ?_
          refine p_iload (pc := 63) C dX4_readingsAreSo_63 rfl ?_
          refine p_aload_n (pc := 65) C dX4_readingsAreSo_65 rfl ?_
          refine p_get (pc := 66) C fl_X4_47 dX4_readingsAreSo_66 ⟨by omega, by omega⟩ (by (repeat refine mg_n (by omega) ?_); first | assumption | exact mup_s _ _ _) (by rfl) ?_
          refine p_iload_n (pc := 69) C dX4_readingsAreSo_69 rfl ?_
          refine p_iald (pc := 70) C dX4_readingsAreSo_70 ⟨by omega, by omega⟩ (by (repeat refine mg_n (by omega) ?_); first | assumption | exact mup_s _ _ _) (by omega) ?_
          refine p_icmp_eq (pc := 71) (tgt := 76) C dX4_readingsAreSo_71 (by decide) (fun c_71 => ?_) (fun c_71 => ?_)
          · refine p_iinc (pc := 76) (ls' := [(3, _), (5, _), (4, _), (0, _), (1, _), (2, _)]) C dX4_readingsAreSo_76 (by decide) rfl ⟨by omega, by omega⟩ rfl ?_
            refine p_goto (pc := 79) (tgt := 2) C dX4_readingsAreSo_79 (by decide) ?_
            refine p_pick [0, 3, 4, 5] (ls' := [(3, _), (0, _), (1, _), (2, _)]) rfl ?_
            exact ih (i + 1) (by omega) (by omega) (by
              first
                | (rw [if_pos (by omega)] at h3; exact h3)
                | (rw [if_pos (by rw [if_pos (by omega)]; omega)] at h3; exact h3)
                | (rw [if_pos (by rw [if_neg (by omega)]; omega)] at h3; exact h3))
          · refine p_iconst (pc := 74) C dX4_readingsAreSo_74 (by decide) ?_
            refine p_zret (pc := 75) C dX4_readingsAreSo_75 (by first | exact Or.inl rfl | exact Or.inr rfl | (split <;> simp)) ?_
            exact ⟨by rw [if_neg (by rw [← h3, if_neg (by first | omega | (rw [if_pos (by omega)]; omega) | (rw [if_neg (by omega)]; omega))]; decide)], rfl⟩
  refine p_iconst (pc := 0) C dX4_readingsAreSo_0 (by decide) ?_
  refine p_istore_n (pc := 1) (ls' := [(3, _), (0, _), (1, _), (2, _)]) C dX4_readingsAreSo_1 (by decide) rfl ?_
  exact L nr.toNat 0 (by omega) (by omega) rfl

/-- the greatest that divides both, from d down -/
def cdN (u l : Int) : Nat → Int
  | 0 => 1
  | d + 1 => if (d : Int) + 1 ≤ 1 then 1 else if u % ((d : Int) + 1) = 0 ∧ l % ((d : Int) + 1) = 0 then (d : Int) + 1 else cdN u l d
theorem cdN_p (u l : Int) : ∀ d : Nat, 1 ≤ cdN u l d ∧ (cdN u l d = 1 ∨ cdN u l d ≤ (d : Int))
  | 0 => by simp [cdN]
  | d + 1 => by
    have := cdN_p u l d
    simp only [cdN]
    split
    · omega
    · split
      · push_cast; omega
      · push_cast; omega

set_option maxHeartbeats 4000000 in
set_option maxRecDepth 100000 in
theorem k_X4_commonDivisor {K : KX} {d : Nat} {μ : Int → ME} {u l : Int} (hu : 0 ≤ u ∧ u ≤ 1000) (hl : 0 ≤ l ∧ l ≤ 1000) : Ct K (d) yX4_commonDivisor cX4_commonDivisor 3 (some .int) [vI u, vI l] μ (pF (vI (cdN u l l.toNat)) μ) := by
  refine Ct.of (by decide) (Nat.le_of_ble_eq_true rfl) (fun X C => ?_)
  have L : ∀ (t : Nat) (i : Int), i = (t : Int) → cdN u l t = cdN u l l.toNat → i ≤ 1000 → PW K X 3 (QM K X (pF (vI (cdN u l l.toNat)) μ)) 2 [(2, vI i), (0, vI u), (1, vI l)] [] μ := by
    intro t
    induction t with
    | zero =>
      intro i h1 h3 h4
      refine p_iload_n (pc := 2) C dX4_commonDivisor_2 rfl ?_
      refine p_iconst (pc := 3) C dX4_commonDivisor_3 (by decide) ?_
      refine p_icmp_le (pc := 4) (tgt := 27) C dX4_commonDivisor_4 (by decide) (fun c_4 => ?_) (fun h => by exfalso; omega)
      refine p_iconst (pc := 27) C dX4_commonDivisor_27 (by decide) ?_
      refine p_iret (pc := 28) C dX4_commonDivisor_28 ?_
      exact ⟨sv (by rw [← h3]; rfl), rfl⟩
    | succ t ih =>
      intro i h1 h3 h4
      subst h1
      rw [cdN] at h3
      refine p_iload_n (pc := 2) C dX4_commonDivisor_2 rfl ?_
      refine p_iconst (pc := 3) C dX4_commonDivisor_3 (by decide) ?_
      refine p_icmp_le (pc := 4) (tgt := 27) C dX4_commonDivisor_4 (by decide) (fun c_4 => ?_) (fun c_4 => ?_)
      · refine p_iconst (pc := 27) C dX4_commonDivisor_27 (by decide) ?_
        refine p_iret (pc := 28) C dX4_commonDivisor_28 ?_
        first
          | exact ⟨sv (by rw [← h3, if_pos (by omega)]), rfl⟩
          | exact ⟨sv (by rw [← h3, if_neg (by omega), if_pos ⟨by assumption, by assumption⟩]; push_cast; rfl), rfl⟩
      · refine p_iload_n (pc := 7) C dX4_commonDivisor_7 rfl ?_
        refine p_iload_n (pc := 8) C dX4_commonDivisor_8 rfl ?_
        refine p_irem (pc := 9) C dX4_commonDivisor_9 (by omega) (by omega) ?_
        refine p_if_ne (pc := 10) (tgt := 21) C dX4_commonDivisor_10 (by decide) (fun c_10 => ?_) (fun c_10 => ?_)
        · refine p_iinc (pc := 21) (ls' := [(2, _), (0, _), (1, _)]) C dX4_commonDivisor_21 (by decide) rfl ⟨by omega, by omega⟩ rfl ?_
          refine p_goto (pc := 24) (tgt := 2) C dX4_commonDivisor_24 (by decide) ?_
          exact ih _ (by push_cast; omega) (by
            first
              | (rw [if_neg (by omega), if_neg (fun z => c_10 z.1)] at h3; exact h3)
              | (rw [if_neg (by omega), if_neg (fun z => c_16 z.2)] at h3; exact h3)) (by omega)
        · refine p_iload_n (pc := 13) C dX4_commonDivisor_13 rfl ?_
          refine p_iload_n (pc := 14) C dX4_commonDivisor_14 rfl ?_
          refine p_irem (pc := 15) C dX4_commonDivisor_15 (by omega) (by omega) ?_
          refine p_if_ne (pc := 16) (tgt := 21) C dX4_commonDivisor_16 (by decide) (fun c_16 => ?_) (fun c_16 => ?_)
          · refine p_iinc (pc := 21) (ls' := [(2, _), (0, _), (1, _)]) C dX4_commonDivisor_21 (by decide) rfl ⟨by omega, by omega⟩ rfl ?_
            refine p_goto (pc := 24) (tgt := 2) C dX4_commonDivisor_24 (by decide) ?_
            exact ih _ (by push_cast; omega) (by
              first
                | (rw [if_neg (by omega), if_neg (fun z => c_10 z.1)] at h3; exact h3)
                | (rw [if_neg (by omega), if_neg (fun z => c_16 z.2)] at h3; exact h3)) (by omega)
          · refine p_iload_n (pc := 19) C dX4_commonDivisor_19 rfl ?_
            refine p_iret (pc := 20) C dX4_commonDivisor_20 ?_
            first
              | exact ⟨sv (by rw [← h3, if_pos (by omega)]), rfl⟩
              | exact ⟨sv (by rw [← h3, if_neg (by omega), if_pos ⟨by assumption, by assumption⟩]; push_cast; rfl), rfl⟩
  refine p_iload_n (pc := 0) C dX4_commonDivisor_0 rfl ?_
  refine p_istore_n (pc := 1) (ls' := [(2, _), (0, _), (1, _)]) C dX4_commonDivisor_1 (by decide) rfl ?_
  exact L l.toNat l (by omega) rfl (by omega)

set_option maxHeartbeats 4000000 in
set_option maxRecDepth 100000 in
theorem k_X4_ofShare {K : KX} {d : Nat} {μ : Int → ME} {u l w : Int} (hu : 0 ≤ u ∧ u ≤ 1000) (hl : 0 ≤ l ∧ l ≤ 1000) : Ct K (d + 1) yX4_ofShare cX4_ofShare 5 (some .long) [vI u, vI l, vI w] μ (pF (vL ((if w = 0 then u else l) / cdN u l l.toNat)) μ) := by
  refine Ct.of (by decide) (Nat.le_of_ble_eq_true rfl) (fun X C => ?_)
  refine p_iload_n (pc := 0) C dX4_ofShare_0 rfl ?_
  refine p_if_ne (pc := 1) (tgt := 8) C dX4_ofShare_1 (by decide) (fun c_1 => ?_) (fun c_1 => ?_)
  · refine p_iload_n (pc := 8) C dX4_ofShare_8 rfl ?_
    have hcd := cdN_p u l l.toNat
    refine p_istore_n (pc := 9) (ls' := [(3, _), (0, _), (1, _), (2, _)]) C dX4_ofShare_9 (by decide) rfl ?_
    refine p_iload_n (pc := 10) C dX4_ofShare_10 rfl ?_
    refine p_iload_n (pc := 11) C dX4_ofShare_11 rfl ?_
    refine p_callSF (pc := 12) C ln_X4_329 dX4_ofShare_12 (k_X4_commonDivisor hu hl) rfl rfl (Nat.le_of_ble_eq_true rfl) ?_
    refine p_istore (pc := 15) (ls' := [(4, _), (3, _), (0, _), (1, _), (2, _)]) C dX4_ofShare_15 (by decide) rfl ?_
    refine p_iload (pc := 17) C dX4_ofShare_17 rfl ?_
    refine p_iconst (pc := 19) C dX4_ofShare_19 (by decide) ?_
    refine p_icmp_le (pc := 20) (tgt := 31) C dX4_ofShare_20 (by decide) (fun c_20 => ?_) (fun c_20 => ?_)
    · refine p_iload_n (pc := 31) C dX4_ofShare_31 rfl ?_
      refine p_i2l (pc := 32) C dX4_ofShare_32 ?_
      refine p_lret (pc := 33) C dX4_ofShare_33 ?_
      exact ⟨svL (by first | (rw [if_pos (by omega)]; done) | (rw [if_neg (by omega)]; done) | (rw [if_pos (by omega), show cdN u l l.toNat = 1 by omega, Int.ediv_one]; done) | (rw [if_neg (by omega), show cdN u l l.toNat = 1 by omega, Int.ediv_one]; done)), rfl⟩
    · refine p_iload_n (pc := 23) C dX4_ofShare_23 rfl ?_
      refine p_iload (pc := 24) C dX4_ofShare_24 rfl ?_
      refine p_idiv (pc := 26) C dX4_ofShare_26 (by omega) (by omega) ?_
      refine p_i2l (pc := 27) C dX4_ofShare_27 ?_
      refine p_goto (pc := 28) (tgt := 33) C dX4_ofShare_28 (by decide) ?_
      refine p_lret (pc := 33) C dX4_ofShare_33 ?_
      exact ⟨svL (by first | (rw [if_pos (by omega)]; done) | (rw [if_neg (by omega)]; done) | (rw [if_pos (by omega), show cdN u l l.toNat = 1 by omega, Int.ediv_one]; done) | (rw [if_neg (by omega), show cdN u l l.toNat = 1 by omega, Int.ediv_one]; done)), rfl⟩
  · refine p_iload_n (pc := 4) C dX4_ofShare_4 rfl ?_
    refine p_goto (pc := 5) (tgt := 9) C dX4_ofShare_5 (by decide) ?_
    have hcd := cdN_p u l l.toNat
    refine p_istore_n (pc := 9) (ls' := [(3, _), (0, _), (1, _), (2, _)]) C dX4_ofShare_9 (by decide) rfl ?_
    refine p_iload_n (pc := 10) C dX4_ofShare_10 rfl ?_
    refine p_iload_n (pc := 11) C dX4_ofShare_11 rfl ?_
    refine p_callSF (pc := 12) C ln_X4_329 dX4_ofShare_12 (k_X4_commonDivisor hu hl) rfl rfl (Nat.le_of_ble_eq_true rfl) ?_
    refine p_istore (pc := 15) (ls' := [(4, _), (3, _), (0, _), (1, _), (2, _)]) C dX4_ofShare_15 (by decide) rfl ?_
    refine p_iload (pc := 17) C dX4_ofShare_17 rfl ?_
    refine p_iconst (pc := 19) C dX4_ofShare_19 (by decide) ?_
    refine p_icmp_le (pc := 20) (tgt := 31) C dX4_ofShare_20 (by decide) (fun c_20 => ?_) (fun c_20 => ?_)
    · refine p_iload_n (pc := 31) C dX4_ofShare_31 rfl ?_
      refine p_i2l (pc := 32) C dX4_ofShare_32 ?_
      refine p_lret (pc := 33) C dX4_ofShare_33 ?_
      exact ⟨svL (by first | (rw [if_pos (by omega)]; done) | (rw [if_neg (by omega)]; done) | (rw [if_pos (by omega), show cdN u l l.toNat = 1 by omega, Int.ediv_one]; done) | (rw [if_neg (by omega), show cdN u l l.toNat = 1 by omega, Int.ediv_one]; done)), rfl⟩
    · refine p_iload_n (pc := 23) C dX4_ofShare_23 rfl ?_
      refine p_iload (pc := 24) C dX4_ofShare_24 rfl ?_
      refine p_idiv (pc := 26) C dX4_ofShare_26 (by omega) (by omega) ?_
      refine p_i2l (pc := 27) C dX4_ofShare_27 ?_
      refine p_goto (pc := 28) (tgt := 33) C dX4_ofShare_28 (by decide) ?_
      refine p_lret (pc := 33) C dX4_ofShare_33 ?_
      exact ⟨svL (by first | (rw [if_pos (by omega)]; done) | (rw [if_neg (by omega)]; done) | (rw [if_pos (by omega), show cdN u l l.toNat = 1 by omega, Int.ediv_one]; done) | (rw [if_neg (by omega), show cdN u l l.toNat = 1 by omega, Int.ediv_one]; done)), rfl⟩

theorem iwr_lo {w : Int} (h : rng w) : iwr (w - 10) = (if w < -2147483638 then w - 10 + 4294967296 else w - 10) := by
  split
  · have e : Int32.ofInt (w - 10) = Int32.ofInt (w - 10 + 4294967296) := by
      rw [Int32.ofInt_add]
      have : Int32.ofInt 4294967296 = 0 := by decide +kernel
      rw [this, Int32.add_zero]
    unfold iwr
    rw [e]
    exact zi ⟨by omega, by omega⟩
  · exact iwr_id ⟨by omega, by omega⟩

set_option maxHeartbeats 4000000 in
set_option maxRecDepth 100000 in
theorem k_X4_isAskedOfVoyage {K : KX} {d : Nat} {μ : Int → ME} {v : Int} (hv : rng v) : Ct K (d + 1) yX4_isAskedOfVoyage cX4_isAskedOfVoyage 1 (some .boolean) [vI v] μ (pF (vI (if (0 ≤ v ∧ v ≤ 4) ∨ (10 ≤ v ∧ v < 15) then 1 else 0)) μ) := by
  refine Ct.of (by decide) (Nat.le_of_ble_eq_true rfl) (fun X C => ?_)
  refine p_iload_n (pc := 0) C dX4_isAskedOfVoyage_0 rfl ?_
  refine p_iconst (pc := 1) C dX4_isAskedOfVoyage_1 (by decide) ?_
  refine p_callSF (pc := 2) C ln_X4_127 dX4_isAskedOfVoyage_2 (k_X4_isUpTo) rfl rfl (Nat.le_of_ble_eq_true rfl) ?_
  refine p_ifne_b (pc := 5) (tgt := 19) C dX4_isAskedOfVoyage_5 (by decide) (fun c_5 => ?_) (fun c_5 => ?_)
  · refine p_iconst (pc := 19) C dX4_isAskedOfVoyage_19 (by decide) ?_
    refine p_goto (pc := 20) (tgt := 24) C dX4_isAskedOfVoyage_20 (by decide) ?_
    refine p_zret (pc := 24) C dX4_isAskedOfVoyage_24 (by first | exact Or.inl rfl | exact Or.inr rfl | (split <;> simp)) ?_
    first
      | exact ⟨by rw [if_pos (by omega)], rfl⟩
      | exact ⟨by rw [if_neg (by omega)], rfl⟩
  · have hw := iwr_lo hv
    refine p_iload_n (pc := 8) C dX4_isAskedOfVoyage_8 rfl ?_
    refine p_bipush (pc := 9) C dX4_isAskedOfVoyage_9 (by decide) ?_
    refine p_isubw (pc := 11) C dX4_isAskedOfVoyage_11 ?_
    refine p_iconst (pc := 12) C dX4_isAskedOfVoyage_12 (by decide) ?_
    refine p_callSF (pc := 13) C ln_X4_66 dX4_isAskedOfVoyage_13 (k_X4_isBelow) rfl rfl (Nat.le_of_ble_eq_true rfl) ?_
    refine p_ifeq_b (pc := 16) (tgt := 23) C dX4_isAskedOfVoyage_16 (by decide) (fun c_16 => ?_) (fun c_16 => ?_)
    · refine p_iconst (pc := 23) C dX4_isAskedOfVoyage_23 (by decide) ?_
      refine p_zret (pc := 24) C dX4_isAskedOfVoyage_24 (by first | exact Or.inl rfl | exact Or.inr rfl | (split <;> simp)) ?_
      first
        | exact ⟨by rw [if_pos (by omega)], rfl⟩
        | exact ⟨by rw [if_neg (by omega)], rfl⟩
    · refine p_iconst (pc := 19) C dX4_isAskedOfVoyage_19 (by decide) ?_
      refine p_goto (pc := 20) (tgt := 24) C dX4_isAskedOfVoyage_20 (by decide) ?_
      refine p_zret (pc := 24) C dX4_isAskedOfVoyage_24 (by first | exact Or.inl rfl | exact Or.inr rfl | (split <;> simp)) ?_
      first
        | exact ⟨by rw [if_pos (by omega)], rfl⟩
        | exact ⟨by rw [if_neg (by omega)], rfl⟩
