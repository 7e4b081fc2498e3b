/-- SETS of ships as numbers -/
theorem ib_o : ∀ x : Nat, x < 32 → ∀ y : Nat, y < 32 → iOr (x : Int) (y : Int) = ((x ||| y : Nat) : Int) ∧ iAnd (x : Int) (y : Int) = ((x &&& y : Nat) : Int) := by decide +kernel
theorem ib_s : ∀ k : Nat, k < 6 → iShl 1 (k : Int) = ((1 <<< k : Nat) : Int) ∧ 1 <<< k ≤ 32 ∧ (k < 5 → 1 <<< k < 32) ∧ (k < 4 → 1 <<< k < 16) := by decide +kernel
theorem ib_r : ∀ s : Nat, s < 32 → ∀ k : Nat, k < 5 → iShr (s : Int) (k : Int) = ((s >>> k : Nat) : Int) ∧ iAnd ((s >>> k : Nat) : Int) 1 = ((s >>> k % 2 : Nat) : Int) ∧ iAnd ((s >>> k : Nat) : Int) 1 = (((s >>> k) % 2 : Nat) : Int) := by decide +kernel
def naM (f : Nat → Nat) (set k w : Nat) : Nat → Nat
  | 0 => w
  | t + 1 => naM f set (k + 1) (w ||| (if (set >>> k) % 2 = 1 then 1 <<< f k else 0)) t
def szM (s : Nat) : Nat := s % 2 + s / 2 % 2 + s / 4 % 2 + s / 8 % 2 + s / 16 % 2
def cvM (f : Nat → Nat) (n best : Nat) : Nat → Nat
  | 0 => best
  | t + 1 => cvM f n (if naM f t 0 0 n = naM f ((1 <<< n) - 1) 0 0 n ∧ szM t ≤ szM best then t else best) t
def coM (f : Nat → Nat) (k cv ch : Nat) : Nat → Nat
  | 0 => ch
  | t + 1 => if cv &&& (1 <<< f k) = 0 then coM f (k + 1) (cv ||| 1 <<< f k) (ch ||| 1 <<< k) t else coM f (k + 1) cv ch t
theorem co_fin : ∀ n : Nat, n < 5 → ∀ a : Nat, a < 4 → ∀ b : Nat, b < 4 → ∀ c : Nat, c < 4 → ∀ d : Nat, d < 4 → ∀ e : Nat, e < 4 → cvM (fun k => [a, b, c, d, e].getD k 0) (n + 1) ((1 <<< (n + 1)) - 1) ((1 <<< (n + 1)) - 1 + 1) = coM (fun k => [a, b, c, d, e].getD k 0) 0 0 0 (n + 1) := by decide +kernel
theorem szI_n (s : Nat) : szI (s : Int) = ((szM s : Nat) : Int) := by unfold szI szM; omega
theorem naM_b {f : Nat → Nat} (hf : ∀ k, f k < 4) (set : Nat) : ∀ (t k w : Nat), w < 16 → naM f set k w t < 16
  | 0, k, w, h => h
  | t + 1, k, w, h => by
    rw [naM]
    refine naM_b hf set t (k + 1) _ (Nat.or_lt_two_pow (n := 4) h ?_)
    split
    · exact (ib_s (f k) (by have := hf k; omega)).2.2.2 (hf k)
    · decide
theorem coN_n {nm : Int → Int} {f : Nat → Nat} {ns : Nat} (hf : ∀ k, f k < 4) (hn : ∀ k : Nat, k < ns → nm (k : Int) = ((f k : Nat) : Int)) (h5 : ns ≤ 5) : ∀ (t k cv ch : Nat), k + t = ns → cv < 16 → ch < 32 → coN nm (k : Int) (cv : Int) (ch : Int) t = ((coM f k cv ch t : Nat) : Int)
  | 0, k, cv, ch, _, _, _ => rfl
  | t + 1, k, cv, ch, h1, h2, h3 => by
    have s1 := ib_s (f k) (by have := hf k; omega)
    have s2 := ib_s k (by omega)
    have b1 : 1 <<< f k < 16 := s1.2.2.2 (hf k)
    have b2 : 1 <<< k < 32 := s2.2.2.1 (by omega)
    have e1 := ib_o cv (by omega) (1 <<< f k) (by omega)
    have e2 := ib_o ch (by omega) (1 <<< k) b2
    rw [coN, coM, hn k (by omega), s1.1, e1.2]
    by_cases h : cv &&& 1 <<< f k = 0
    · rw [if_pos h, if_pos (by rw [h]; rfl), e1.1, s2.1, e2.1]
      exact coN_n hf hn h5 t (k + 1) _ _ (by omega) (Nat.or_lt_two_pow (n := 4) h2 b1) (Nat.or_lt_two_pow (n := 5) h3 b2)
    · rw [if_neg h, if_neg (fun z => h (by exact_mod_cast z))]
      exact coN_n hf hn h5 t (k + 1) _ _ (by omega) h2 h3

set_option maxHeartbeats 4000000 in
set_option maxRecDepth 100000 in
theorem k_X5_namesOf {K : KX} {d : Nat} {μ : Int → ME} {set : Nat} {fl tr np ns day at_ rP rS lp lw lf sL sF nr : Int} (h0 : μ 42 = oM fl tr np ns day at_ rP rS lp lw lf sL sF nr) {f : Nat → Nat} {nf : Int → Int} (h48 : μ 48 = mA 5 nf) (hf : ∀ k, f k < 4) (hn : ∀ k : Nat, k < ns.toNat → nf (k : Int) = ((f k : Nat) : Int)) (hns : 0 ≤ ns ∧ ns ≤ 5) (hs : set < 32) : Ct K (d) yX5_namesOf cX5_namesOf 4 (some .int) [vR 42, vI (set : Int)] μ (pF (vI ((naM f set 0 0 ns.toNat : Nat) : Int)) μ) := by
  refine Ct.of (by decide) (Nat.le_of_ble_eq_true rfl) (fun X C => ?_)
  have L : ∀ (t : Nat) (k w : Nat), (k : Int) + (t : Int) = ns → w < 16 → naM f set k w t = naM f set 0 0 ns.toNat → PW K X 4 (QM K X (pF (vI ((naM f set 0 0 ns.toNat : Nat) : Int)) μ)) 4 [(3, vI (k : Int)), (2, vI (w : Int)), (0, vR 42), (1, vI (set : Int))] [] μ := by
    intro t
    induction t with
    | zero =>
      intro k w g2 g3 g4
      refine p_iload_n (pc := 4) C dX5_namesOf_4 rfl ?_
      refine p_aload_n (pc := 5) C dX5_namesOf_5 rfl ?_
      refine p_get (pc := 6) C fl_X5_71 dX5_namesOf_6 ⟨by omega, by omega⟩ (by (repeat refine mg_n (by omega) ?_); first | assumption | exact mup_s _ _ _) (by rfl) ?_
      refine p_icmp_ge (pc := 9) (tgt := 42) C dX5_namesOf_9 (by decide) (fun c_9 => ?_) (fun h => by exfalso; omega)
      refine p_iload_n (pc := 42) C dX5_namesOf_42 rfl ?_
      refine p_iret (pc := 43) C dX5_namesOf_43 ?_
      exact ⟨sv (by rw [← g4]; rfl), rfl⟩
    | succ t ih =>
      intro k w g2 g3 g4
      rw [naM] at g4
      have r1 := ib_r set hs k (by omega)
      have s1 := ib_s (f k) (by have := hf k; omega)
      have b1 : 1 <<< f k < 16 := s1.2.2.2 (hf k)
      have e1 := ib_o w (by omega) (1 <<< f k) (by omega)
      have e0 := ib_o w (by omega) 0 (by omega)
      have q := hn k (by omega)
      refine p_iload_n (pc := 4) C dX5_namesOf_4 rfl ?_
      refine p_aload_n (pc := 5) C dX5_namesOf_5 rfl ?_
      refine p_get (pc := 6) C fl_X5_71 dX5_namesOf_6 ⟨by omega, by omega⟩ (by (repeat refine mg_n (by omega) ?_); first | assumption | exact mup_s _ _ _) (by rfl) ?_
      refine p_icmp_ge (pc := 9) (tgt := 42) C dX5_namesOf_9 (by decide) (fun h => by exfalso; omega) (fun c_9 => ?_)
      refine p_iload_n (pc := 12) C dX5_namesOf_12 rfl ?_
      refine p_iload_n (pc := 13) C dX5_namesOf_13 rfl ?_
      refine p_iload_n (pc := 14) C dX5_namesOf_14 rfl ?_
      refine p_ishr (pc := 15) C dX5_namesOf_15 ?_
      refine p_top r1.1 ?_
      refine p_iconst (pc := 16) C dX5_namesOf_16 (by decide) ?_
      refine p_iand (pc := 17) C dX5_namesOf_17 ?_
      refine p_top r1.2.2 ?_
      refine p_iconst (pc := 18) C dX5_namesOf_18 (by decide) ?_
      refine p_icmp_ne (pc := 19) (tgt := 33) C dX5_namesOf_19 (by decide) (fun c_19 => ?_) (fun c_19 => ?_)
      · refine p_iconst (pc := 33) C dX5_namesOf_33 (by decide) ?_
        refine p_ior (pc := 34) C dX5_namesOf_34 ?_
        refine p_istore_n (pc := 35) (ls' := [(2, _), (3, _), (0, _), (1, _)]) C dX5_namesOf_35 (by decide) rfl ?_
        refine p_iinc (pc := 36) (ls' := [(3, _), (2, _), (0, _), (1, _)]) C dX5_namesOf_36 (by decide) rfl ⟨by omega, by omega⟩ rfl ?_
        refine p_goto (pc := 39) (tgt := 4) C dX5_namesOf_39 (by decide) ?_
        first
          | (rw [if_pos (by omega)] at g4
             refine p_ls (by rw [q, s1.1, e1.1, show ((k : Int) + 1) = ((k + 1 : Nat) : Int) by push_cast; rfl]) ?_
             exact ih (k + 1) _ (by push_cast; omega) (Nat.or_lt_two_pow (n := 4) g3 b1) g4)
          | (rw [if_neg (by omega)] at g4
             refine p_ls (by rw [show (0 : Int) = ((0 : Nat) : Int) from rfl, e0.1, show ((k : Int) + 1) = ((k + 1 : Nat) : Int) by push_cast; rfl]) ?_
             exact ih (k + 1) _ (by push_cast; omega) (Nat.or_lt_two_pow (n := 4) g3 (by decide)) g4)
      · refine p_iconst (pc := 22) C dX5_namesOf_22 (by decide) ?_
        refine p_aload_n (pc := 23) C dX5_namesOf_23 rfl ?_
        refine p_get (pc := 24) C fl_X5_25 dX5_namesOf_24 ⟨by omega, by omega⟩ (by (repeat refine mg_n (by omega) ?_); first | assumption | exact mup_s _ _ _) (by rfl) ?_
        refine p_iload_n (pc := 27) C dX5_namesOf_27 rfl ?_
        refine p_iald (pc := 28) C dX5_namesOf_28 ⟨by omega, by omega⟩ (by (repeat refine mg_n (by omega) ?_); first | assumption | exact mup_s _ _ _) (by omega) ?_
        refine p_ishl (pc := 29) C dX5_namesOf_29 ?_
        refine p_goto (pc := 30) (tgt := 34) C dX5_namesOf_30 (by decide) ?_
        refine p_ior (pc := 34) C dX5_namesOf_34 ?_
        refine p_istore_n (pc := 35) (ls' := [(2, _), (3, _), (0, _), (1, _)]) C dX5_namesOf_35 (by decide) rfl ?_
        refine p_iinc (pc := 36) (ls' := [(3, _), (2, _), (0, _), (1, _)]) C dX5_namesOf_36 (by decide) rfl ⟨by omega, by omega⟩ rfl ?_
        refine p_goto (pc := 39) (tgt := 4) C dX5_namesOf_39 (by decide) ?_
        first
          | (rw [if_pos (by omega)] at g4
             refine p_ls (by rw [q, s1.1, e1.1, show ((k : Int) + 1) = ((k + 1 : Nat) : Int) by push_cast; rfl]) ?_
             exact ih (k + 1) _ (by push_cast; omega) (Nat.or_lt_two_pow (n := 4) g3 b1) g4)
          | (rw [if_neg (by omega)] at g4
             refine p_ls (by rw [show (0 : Int) = ((0 : Nat) : Int) from rfl, e0.1, show ((k : Int) + 1) = ((k + 1 : Nat) : Int) by push_cast; rfl]) ?_
             exact ih (k + 1) _ (by push_cast; omega) (Nat.or_lt_two_pow (n := 4) g3 (by decide)) g4)
  refine p_iconst (pc := 0) C dX5_namesOf_0 (by decide) ?_
  refine p_istore_n (pc := 1) (ls' := [(2, _), (0, _), (1, _)]) C dX5_namesOf_1 (by decide) rfl ?_
  refine p_iconst (pc := 2) C dX5_namesOf_2 (by decide) ?_
  refine p_istore_n (pc := 3) (ls' := [(3, _), (2, _), (0, _), (1, _)]) C dX5_namesOf_3 (by decide) rfl ?_
  refine p_ls (by rw [show (0 : Int) = ((0 : Nat) : Int) from rfl]) ?_
  exact L ns.toNat 0 0 (by omega) (by omega) rfl

theorem co_ex {nm : Int → Int} {ns : Int} (hns5 : 0 ≤ ns ∧ ns ≤ 5) (hr : ∀ k : Int, 0 ≤ k → k < ns → 0 ≤ nm k ∧ nm k < 4) : ∃ f : Nat → Nat, (∀ k, f k < 4) ∧ (∀ k : Nat, k < ns.toNat → nm (k : Int) = ((f k : Nat) : Int)) ∧ (0 < ns → coN nm 0 0 0 ns.toNat = ((cvM f ns.toNat ((1 <<< ns.toNat) - 1) ((1 <<< ns.toNat) - 1 + 1) : Nat) : Int)) := by
  have key : ∀ a b c d e : Nat, (a < 4 ∧ b < 4 ∧ c < 4 ∧ d < 4 ∧ e < 4) → (∀ k : Nat, k < ns.toNat → nm (k : Int) = (([a, b, c, d, e].getD k 0 : Nat) : Int)) → ∃ f : Nat → Nat, (∀ k, f k < 4) ∧ (∀ k : Nat, k < ns.toNat → nm (k : Int) = ((f k : Nat) : Int)) ∧ (0 < ns → coN nm 0 0 0 ns.toNat = ((cvM f ns.toNat ((1 <<< ns.toNat) - 1) ((1 <<< ns.toNat) - 1 + 1) : Nat) : Int)) := by
    intro a b c d e ⟨ha, hb, hc, hd, he⟩ hn
    have hf : ∀ k, (fun k => [a, b, c, d, e].getD k 0) k < 4 := by
      intro k
      match k with
      | 0 => exact ha
      | 1 => exact hb
      | 2 => exact hc
      | 3 => exact hd
      | 4 => exact he
      | _ + 5 => show (0 : Nat) < 4; decide
    refine ⟨fun k => [a, b, c, d, e].getD k 0, hf, hn, fun hp => ?_⟩
    have h1 := coN_n (nm := nm) hf hn (by omega) ns.toNat 0 0 0 (by omega) (by omega) (by omega)
    have h2 := co_fin (ns.toNat - 1) (by omega) a ha b hb c hc d hd e he
    rw [show ns.toNat - 1 + 1 = ns.toNat by omega] at h2
    rw [h2]; exact h1
  have g : ∀ k : Int, (if 0 ≤ k ∧ k < ns then (nm k).toNat else 0) < 4 := by
    intro k
    split
    · rename_i h
      have := hr k h.1 h.2
      omega
    · omega
  refine key _ _ _ _ _ ⟨g 0, g 1, g 2, g 3, g 4⟩ (fun k hk => ?_)
  have hh := hr (k : Int) (by omega) (by omega)
  have hc : (0 : Int) ≤ (k : Int) ∧ (k : Int) < ns := by omega
  rcases (show k = 0 ∨ k = 1 ∨ k = 2 ∨ k = 3 ∨ k = 4 by omega) with rfl | rfl | rfl | rfl | rfl <;> (show nm _ = (((if _ then _ else _) : Nat) : Int); rw [if_pos (by exact hc)]; exact (Int.toNat_of_nonneg hh.1).symm)

set_option maxHeartbeats 4000000 in
set_option maxRecDepth 100000 in
theorem q_X5_cover {K : KX} {d : Nat} {μ : Int → ME} {np ns day nr tr fl : Int} {rg kd nm sg pt : Int → Int} {ca : Int → Int → Int} {rs rp rl th la ln : Int → Int} {ce : Int → Int → Int} (hV : MV np ns day nr tr fl rg kd nm sg pt ca rs rp rl th la ln ce μ) (hW : WF np ns day nr tr fl rg kd nm sg pt ca rs rp rl th la ln ce) : Ct K (d + 1) yX5_cover cX5_cover 4 (some .int) [vR 42] μ (fun r μ' => (∀ a, a < 42 → μ' a = μ a) ∧ (if ¬ 0 < ns then r = some (vI (-3)) ∧ MV np ns day nr tr fl rg kd nm sg pt ca rs rp rl th la ln ce μ' else r = some (vI ((coN nm 0 0 0 ns.toNat))) ∧ MV np ns day nr tr fl rg kd nm sg pt ca rs rp rl th la ln ce μ')) := by
  refine Ct.of (by decide) (Nat.le_of_ble_eq_true rfl) (fun X C => ?_)
  obtain ⟨m42, m43, m44, m45, mB, mD, ⟨m52, m53, m54, m55, m56⟩, m57, m58, m59⟩ := id hV
  obtain ⟨m46, m47, m48, m49⟩ := id mB
  obtain ⟨at_, rP, rS, lp, lw, lf, sL, sF, h0⟩ := id m42
  obtain ⟨f43, h43, e43⟩ := id m43
  obtain ⟨f44, h44, e44⟩ := id m44
  obtain ⟨f45, h45, e45⟩ := id m45
  obtain ⟨f46, h46, e46⟩ := id m46
  obtain ⟨f47, h47, e47⟩ := id m47
  obtain ⟨f48, h48, e48⟩ := id m48
  obtain ⟨f49, h49, e49⟩ := id m49
  obtain ⟨pf, cf, h50, h51, hMR⟩ := id mD
  obtain ⟨f57, h57, e57⟩ := id m57
  obtain ⟨f58, h58, e58⟩ := id m58
  obtain ⟨f59, h59, e59⟩ := id m59
  obtain ⟨w0, w1, w2, w3, w4, w5, w6⟩ := id hW
  have hns5 : 0 ≤ ns ∧ ns ≤ 5 := by omega
  obtain ⟨f, hf0, hnn, hco⟩ := co_ex (nm := nm) (ns := ns) hns5 (fun k h1 h2 => (w3 k h1 h2).2.1)
  have hnf : ∀ k : Nat, k < ns.toNat → f48 (k : Int) = ((f k : Nat) : Int) := fun k hk => by rw [e48 (k : Int) (by omega) (by omega)]; exact hnn k hk
  have hbw0 : (1 <<< ns.toNat) - 1 < 32 := by
    have h1 := (ib_s ns.toNat (by omega)).2.1
    have h2 : 0 < 1 <<< ns.toNat := by rw [Nat.one_shiftLeft]; exact Nat.two_pow_pos _
    omega
  have L : ∀ (t : Nat) (i : Int) (best : Nat), (0 < ns) → i = (t : Int) - 1 → (t ≤ 32 ∧ best < 32) → cvM f ns.toNat best t = cvM f ns.toNat ((1 <<< ns.toNat) - 1) ((1 <<< ns.toNat) - 1 + 1) → PW K X 4 (QM K X (fun r μ' => (∀ a, a < 42 → μ' a = μ a) ∧ (if ¬ 0 < ns then r = some (vI (-3)) ∧ MV np ns day nr tr fl rg kd nm sg pt ca rs rp rl th la ln ce μ' else r = some (vI ((coN nm 0 0 0 ns.toNat))) ∧ MV np ns day nr tr fl rg kd nm sg pt ca rs rp rl th la ln ce μ'))) 23 [(3, vI i), (2, vI (best : Int)), (1, vI (((1 <<< ns.toNat) - 1 : Nat) : Int)), (0, vR 42)] [] μ := by
    intro t
    induction t with
    | zero =>
      intro i best g1 g2 g3 g4
      rw [cvM] at g4
      refine p_iload_n (pc := 23) C dX5_cover_23 rfl ?_
      refine p_if_lt (pc := 24) (tgt := 59) C dX5_cover_24 (by decide) (fun c_24 => ?_) (fun h => by exfalso; omega)
      refine p_iload_n (pc := 59) C dX5_cover_59 rfl ?_
      refine p_iret (pc := 60) C dX5_cover_60 ?_
      refine ⟨fun q hq => by (repeat (refine mg_n (by omega) ?_)); rfl, ?_⟩
      rw [if_neg (by omega), hco g1, ← g4]
      exact ⟨rfl, hV⟩
    | succ t ih =>
      intro i best g1 g2 g3 g4
      rw [cvM] at g4
      have hi : i = (t : Int) := by push_cast at g2; omega
      subst hi
      have z1 := szI_n t
      have z2 := szI_n best
      refine p_iload_n (pc := 23) C dX5_cover_23 rfl ?_
      refine p_if_lt (pc := 24) (tgt := 59) C dX5_cover_24 (by decide) (fun h => by exfalso; omega) (fun c_24 => ?_)
      refine p_aload_n (pc := 27) C dX5_cover_27 rfl ?_
      refine p_iload_n (pc := 28) C dX5_cover_28 rfl ?_
      refine p_callVF (pc := 29) C ln_X5_209 dX5_cover_29 (k_X5_namesOf (f := f) (set := t) h0 h48 hf0 hnf (by omega) (by omega)) ⟨by omega, by omega⟩ (by (repeat refine mg_n (by omega) ?_); first | assumption | exact mup_s _ _ _) rfl rfl rfl rfl (Nat.le_of_ble_eq_true rfl) ?_
      refine p_aload_n (pc := 32) C dX5_cover_32 rfl ?_
      refine p_iload_n (pc := 33) C dX5_cover_33 rfl ?_
      refine p_callVF (pc := 34) C ln_X5_209 dX5_cover_34 (k_X5_namesOf (f := f) (set := ((1 <<< ns.toNat) - 1)) h0 h48 hf0 hnf (by omega) (by omega)) ⟨by omega, by omega⟩ (by (repeat refine mg_n (by omega) ?_); first | assumption | exact mup_s _ _ _) rfl rfl rfl rfl (Nat.le_of_ble_eq_true rfl) ?_
      refine p_icmp_ne (pc := 37) (tgt := 53) C dX5_cover_37 (by decide) (fun c_37 => ?_) (fun c_37 => ?_)
      · refine p_iinc (pc := 53) (ls' := [(3, _), (2, _), (1, _), (0, _)]) C dX5_cover_53 (by decide) rfl ⟨by omega, by omega⟩ rfl ?_
        refine p_goto (pc := 56) (tgt := 23) C dX5_cover_56 (by decide) ?_
        first
          | (rw [if_neg (fun z => c_37 (by rw [z.1]))] at g4; exact ih _ best g1 rfl (by omega) g4)
          | (rw [if_neg (by omega)] at g4; exact ih _ best g1 rfl (by omega) g4)
          | (rw [if_pos ⟨by exact_mod_cast c_37, by omega⟩] at g4; exact ih _ t g1 rfl (by omega) g4)
      · refine p_iload_n (pc := 40) C dX5_cover_40 rfl ?_
        refine p_callSF (pc := 41) C ln_X5_212 dX5_cover_41 (k_X5_size (v := (t : Int)) (by omega)) rfl rfl (Nat.le_of_ble_eq_true rfl) ?_
        refine p_iload_n (pc := 44) C dX5_cover_44 rfl ?_
        refine p_callSF (pc := 45) C ln_X5_212 dX5_cover_45 (k_X5_size (v := (best : Int)) (by omega)) rfl rfl (Nat.le_of_ble_eq_true rfl) ?_
        refine p_icmp_gt (pc := 48) (tgt := 53) C dX5_cover_48 (by decide) (fun c_48 => ?_) (fun c_48 => ?_)
        · refine p_iinc (pc := 53) (ls' := [(3, _), (2, _), (1, _), (0, _)]) C dX5_cover_53 (by decide) rfl ⟨by omega, by omega⟩ rfl ?_
          refine p_goto (pc := 56) (tgt := 23) C dX5_cover_56 (by decide) ?_
          first
            | (rw [if_neg (fun z => c_37 (by rw [z.1]))] at g4; exact ih _ best g1 rfl (by omega) g4)
            | (rw [if_neg (by omega)] at g4; exact ih _ best g1 rfl (by omega) g4)
            | (rw [if_pos ⟨by exact_mod_cast c_37, by omega⟩] at g4; exact ih _ t g1 rfl (by omega) g4)
        · refine p_iload_n (pc := 51) C dX5_cover_51 rfl ?_
          refine p_istore_n (pc := 52) (ls' := [(2, _), (3, _), (1, _), (0, _)]) C dX5_cover_52 (by decide) rfl ?_
          refine p_iinc (pc := 53) (ls' := [(3, _), (2, _), (1, _), (0, _)]) C dX5_cover_53 (by decide) rfl ⟨by omega, by omega⟩ rfl ?_
          refine p_goto (pc := 56) (tgt := 23) C dX5_cover_56 (by decide) ?_
          first
            | (rw [if_neg (fun z => c_37 (by rw [z.1]))] at g4; exact ih _ best g1 rfl (by omega) g4)
            | (rw [if_neg (by omega)] at g4; exact ih _ best g1 rfl (by omega) g4)
            | (rw [if_pos ⟨by exact_mod_cast c_37, by omega⟩] at g4; exact ih _ t g1 rfl (by omega) g4)
  refine p_aload_n (pc := 0) C dX5_cover_0 rfl ?_
  refine p_get (pc := 1) C fl_X5_71 dX5_cover_1 ⟨by omega, by omega⟩ (by (repeat refine mg_n (by omega) ?_); first | assumption | exact mup_s _ _ _) (by rfl) ?_
  refine p_if_ne (pc := 4) (tgt := 10) C dX5_cover_4 (by decide) (fun c_4 => ?_) (fun c_4 => ?_)
  · refine p_iconst (pc := 10) C dX5_cover_10 (by decide) ?_
    refine p_aload_n (pc := 11) C dX5_cover_11 rfl ?_
    refine p_get (pc := 12) C fl_X5_71 dX5_cover_12 ⟨by omega, by omega⟩ (by (repeat refine mg_n (by omega) ?_); first | assumption | exact mup_s _ _ _) (by rfl) ?_
    refine p_ishl (pc := 15) C dX5_cover_15 ?_
    have hpos : 0 < 1 <<< ns.toNat := by rw [Nat.one_shiftLeft]; exact Nat.two_pow_pos _
    have hsh := ib_s ns.toNat (by omega)
    rw [show ((ns.toNat : Nat) : Int) = ns by omega] at hsh
    refine p_top hsh.1 ?_
    refine p_iconst (pc := 16) C dX5_cover_16 (by decide) ?_
    refine p_isub (pc := 17) C dX5_cover_17 ⟨by omega, by omega⟩ ?_
    refine p_top (show ((1 <<< ns.toNat : Nat) : Int) - 1 = (((1 <<< ns.toNat) - 1 : Nat) : Int) by rw [Int.ofNat_sub (by omega)]) ?_
    refine p_istore_n (pc := 18) (ls' := [(1, _), (0, _)]) C dX5_cover_18 (by decide) rfl ?_
    refine p_iload_n (pc := 19) C dX5_cover_19 rfl ?_
    refine p_istore_n (pc := 20) (ls' := [(2, _), (1, _), (0, _)]) C dX5_cover_20 (by decide) rfl ?_
    refine p_iload_n (pc := 21) C dX5_cover_21 rfl ?_
    refine p_istore_n (pc := 22) (ls' := [(3, _), (2, _), (1, _), (0, _)]) C dX5_cover_22 (by decide) rfl ?_
    exact L ((1 <<< ns.toNat) - 1 + 1) _ ((1 <<< ns.toNat) - 1) (by omega) (by push_cast; omega) (by omega) rfl
  · refine p_bipush (pc := 7) C dX5_cover_7 (by decide) ?_
    refine p_iret (pc := 9) C dX5_cover_9 ?_
    first
      | (exfalso; omega)
      | (refine ⟨fun q hq => by (repeat (refine mg_n (by omega) ?_)); rfl, ?_⟩; rw [if_pos (by omega)]; exact ⟨rfl, hV⟩)
