theorem MV_g {np ns day nr tr fl : Int} {rg kd nm sg pt : Int → Int} {ca : Int → Int → Int} {rs rp rl th la ln : Int → Int} {ce : Int → Int → Int} {μ ν : Int → ME} {fl' : Int} (h : MV np ns day nr tr fl rg kd nm sg pt ca rs rp rl th la ln ce μ) (h42 : ∃ at_ rP rS lp lw lf sL sF : Int, ν 42 = oM fl' tr np ns day at_ rP rS lp lw lf sL sF nr) (hD : ∃ p c : Int → Int, ν 50 = mA 5 p ∧ ν 51 = mA 20 c ∧ MR ns (pt, ca, 0, 0, -9) p c) (h54 : ∃ f, ν 54 = mA 5 f) (h55 : ∃ f, ν 55 = mA 20 f) (h56 : ∃ f, ν 56 = mA 4 f) (ho : ∀ x, x ≠ 42 → x ≠ 50 → x ≠ 51 → x ≠ 54 → x ≠ 55 → x ≠ 56 → ν x = μ x) : MV np ns day nr tr (fl') rg kd nm sg pt ca rs rp rl th la ln ce ν := by
  obtain ⟨m42, m43, m44, m45, ⟨m46, m47, m48, m49⟩, mD, ⟨m52, m53, m54, m55, m56⟩, m57, m58, m59⟩ := h
  refine ⟨h42, ?_, ?_, ?_, ⟨?_, ?_, ?_, ?_⟩, hD, ⟨?_, ?_, h54, h55, h56⟩, ?_, ?_, ?_⟩
  · rw [ho 43 (by omega) (by omega) (by omega) (by omega) (by omega) (by omega)]; exact m43
  · rw [ho 44 (by omega) (by omega) (by omega) (by omega) (by omega) (by omega)]; exact m44
  · rw [ho 45 (by omega) (by omega) (by omega) (by omega) (by omega) (by omega)]; exact m45
  · rw [ho 46 (by omega) (by omega) (by omega) (by omega) (by omega) (by omega)]; exact m46
  · rw [ho 47 (by omega) (by omega) (by omega) (by omega) (by omega) (by omega)]; exact m47
  · rw [ho 48 (by omega) (by omega) (by omega) (by omega) (by omega) (by omega)]; exact m48
  · rw [ho 49 (by omega) (by omega) (by omega) (by omega) (by omega) (by omega)]; exact m49
  · rw [ho 52 (by omega) (by omega) (by omega) (by omega) (by omega) (by omega)]; exact m52
  · rw [ho 53 (by omega) (by omega) (by omega) (by omega) (by omega) (by omega)]; exact m53
  · rw [ho 57 (by omega) (by omega) (by omega) (by omega) (by omega) (by omega)]; exact m57
  · rw [ho 58 (by omega) (by omega) (by omega) (by omega) (by omega) (by omega)]; exact m58
  · rw [ho 59 (by omega) (by omega) (by omega) (by omega) (by omega) (by omega)]; exact m59
theorem rfN_c {F F' : Int → Int} {fr fr' ns n : Int} (h : ∀ j, 0 ≤ j → j < 2 * n → F (fr + j) = F' (fr' + j)) : ∀ (t : Nat) (i : Int), 0 ≤ i → i + (t : Int) ≤ n → rfN F fr ns i t = rfN F' fr' ns i t
  | 0, i, _, _ => rfl
  | t + 1, i, h0, h1 => by
    have e0 := h (2 * i) (by omega) (by push_cast at h1; omega)
    have e1 := h (2 * i + 1) (by omega) (by push_cast at h1; omega)
    rw [show fr + (2 * i + 1) = fr + 2 * i + 1 by omega, show fr' + (2 * i + 1) = fr' + 2 * i + 1 by omega] at e1
    rw [rfN, rfN, e0, e1, rfN_c h t (i + 1) (by omega) (by push_cast at h1; omega)]
theorem vyN_c {F F' : Int → Int} {fr fr' np ns n : Int} {rg kd nm sg : Int → Int} (h : ∀ j, 0 ≤ j → j < 2 * n → F (fr + j) = F' (fr' + j)) : ∀ (t : Nat) (i : Int) (S : DS), 0 ≤ i → i + (t : Int) ≤ n → vyN F fr np ns rg kd nm sg i S t = vyN F' fr' np ns rg kd nm sg i S t
  | 0, i, S, _, _ => rfl
  | t + 1, i, S, h0, h1 => by
    have e0 := h (2 * i) (by omega) (by push_cast at h1; omega)
    have e1 := h (2 * i + 1) (by omega) (by push_cast at h1; omega)
    rw [show fr + (2 * i + 1) = fr + 2 * i + 1 by omega, show fr' + (2 * i + 1) = fr' + 2 * i + 1 by omega] at e1
    rw [vyN_s, vyN_s, e0, e1, vyN_c h t (i + 1) _ (by omega) (by push_cast at h1; omega)]

theorem MB_kk {rg kd nm sg : Int → Int} {np ns : Int} {μ : Int → ME} (h : MB rg kd nm sg np ns μ) (o o' o'' : ME) : MB rg kd nm sg np ns (mup (mup (mup μ 42 o) 54 o') 55 o'') := by
  obtain ⟨⟨f1, a1, b1⟩, ⟨f2, a2, b2⟩, ⟨f3, a3, b3⟩, ⟨f4, a4, b4⟩⟩ := h
  exact ⟨⟨f1, mg_n (by omega) (mg_n (by omega) (mg_n (by omega) a1)), b1⟩, ⟨f2, mg_n (by omega) (mg_n (by omega) (mg_n (by omega) a2)), b2⟩, ⟨f3, mg_n (by omega) (mg_n (by omega) (mg_n (by omega) a3)), b3⟩, ⟨f4, mg_n (by omega) (mg_n (by omega) (mg_n (by omega) a4)), b4⟩⟩

theorem tv_e {w ns : Int} {nm : Int → Int} {V : Int × DS} (h1 : ¬ w = 1) (h2 : V.1 = -9) : (if w = 0 then V.2.2.2.1 else if w = 2 then metN nm V.2.2.1 ns.toNat else if w = 3 then V.2.2.2.2.1 else if w = 4 ∨ w = 1 then V.2.2.2.2.2 else if w - 10 < ns then wor (V.2.2.1 (w - 10)) else -9) = vyR w ns nm V := by
  rw [← vyR_n h1 h2]
  by_cases h : w = 4
  · rw [if_pos (Or.inl h : w = 4 ∨ w = 1), if_pos h]
  · rw [if_neg (fun z => z.elim h h1 : ¬ (w = 4 ∨ w = 1)), if_neg h]

theorem rf_s {F : Int → Int} {fr ns i : Int} {t : Nat} : rfN F fr ns i (t + 1) = if (if ¬ (0 ≤ F (fr + 2 * i + 1) ∧ F (fr + 2 * i + 1) ≤ 8) then -2 else if F (fr + 2 * i + 1) = 8 ∧ ¬ (0 ≤ F (fr + 2 * i) ∧ F (fr + 2 * i) ≤ 9) then -2 else if F (fr + 2 * i + 1) ≠ 8 ∧ ¬ (0 ≤ F (fr + 2 * i) ∧ F (fr + 2 * i) < ns) then -1 else 0) = (0 : Int) then rfN F fr ns (i + 1) t else (if ¬ (0 ≤ F (fr + 2 * i + 1) ∧ F (fr + 2 * i + 1) ≤ 8) then -2 else if F (fr + 2 * i + 1) = 8 ∧ ¬ (0 ≤ F (fr + 2 * i) ∧ F (fr + 2 * i) ≤ 9) then -2 else if F (fr + 2 * i + 1) ≠ 8 ∧ ¬ (0 ≤ F (fr + 2 * i) ∧ F (fr + 2 * i) < ns) then -1 else 0) := by
  rw [rfN]
  by_cases h1 : ¬ (0 ≤ F (fr + 2 * i + 1) ∧ F (fr + 2 * i + 1) ≤ 8)
  · simp only [if_pos h1]; rfl
  · simp only [if_neg h1]
    by_cases h2 : F (fr + 2 * i + 1) = 8 ∧ ¬ (0 ≤ F (fr + 2 * i) ∧ F (fr + 2 * i) ≤ 9)
    · simp only [if_pos h2]; rfl
    · simp only [if_neg h2]
      by_cases h3 : F (fr + 2 * i + 1) ≠ 8 ∧ ¬ (0 ≤ F (fr + 2 * i) ∧ F (fr + 2 * i) < ns)
      · simp only [if_pos h3]; rfl
      · simp only [if_neg h3]; rfl

set_option maxHeartbeats 4000000 in
set_option maxRecDepth 100000 in
theorem q_X5_voyage {K : KX} {d : Nat} {μ : Int → ME} {s l i n w : Int} {np ns day nr tr fl : Int} {rg kd nm sg pt : Int → Int} {ca : Int → Int → Int} {rs rp rl th la ln : Int → Int} {ce : Int → Int → Int} (hV : MV np ns day nr tr fl rg kd nm sg pt ca rs rp rl th la ln ce μ) (hW : WF np ns day nr tr fl rg kd nm sg pt ca rs rp rl th la ln ce) : Ct K (d + 5) yX5_voyage cX5_voyage 10 (some .int) [vR 42, vI s, vI l, vI i, vI n, vI w] μ (fun r μ' => (∀ a, a < 42 → μ' a = μ a) ∧ (if ¬ (0 ≤ s ∧ s < 4) then r = some (vI (-1)) ∧ MV np ns day nr tr (0) rg kd nm sg pt ca rs rp rl th la ln ce μ' else if ¬ ((0 ≤ l ∧ l < 3) ∧ (0 ≤ n ∧ n ≤ 20) ∧ ((0 ≤ w ∧ w ≤ 4) ∨ (10 ≤ w ∧ w < 15))) then r = some (vI (-2)) ∧ MV np ns day nr tr (0) rg kd nm sg pt ca rs rp rl th la ln ce μ' else if fot (th s) (la s) (ln s) l i (2 * n) ≠ 0 then r = some (vI (-10 - fot (th s) (la s) (ln s) l i (2 * n))) ∧ MV np ns day nr tr (fot (th s) (la s) (ln s) l i (2 * n)) rg kd nm sg pt ca rs rp rl th la ln ce μ' else if ¬ 0 < ns then r = some (vI (-3)) ∧ MV np ns day nr tr (0) rg kd nm sg pt ca rs rp rl th la ln ce μ' else if rfN (cAt (ln s) (ce s)) i ns 0 n.toNat ≠ 0 then r = some (vI (rfN (cAt (ln s) (ce s)) i ns 0 n.toNat)) ∧ MV np ns day nr tr (0) rg kd nm sg pt ca rs rp rl th la ln ce μ' else r = some (vI (vyR w ns nm (vyN (cAt (ln s) (ce s)) i np ns rg kd nm sg 0 (pt, ca, 0, 0, -9) n.toNat))) ∧ MV np ns day nr tr (0) rg kd nm sg pt ca rs rp rl th la ln ce μ')) := by
  refine Ct.of (by decide) (Nat.le_of_ble_eq_true rfl) (fun X C => ?_)
  obtain ⟨m42, m43, m44, m45, mB, mD, ⟨m52, m53, m54, m55, m56⟩, m57, m58, m59⟩ := id hV
  obtain ⟨m46, m47, m48, m49⟩ := id mB
  obtain ⟨at_, rP, rS, lp, lw, lf, sL, sF, h0⟩ := id m42
  obtain ⟨f43, h43, e43⟩ := id m43
  obtain ⟨f44, h44, e44⟩ := id m44
  obtain ⟨f45, h45, e45⟩ := id m45
  obtain ⟨f46, h46, e46⟩ := id m46
  obtain ⟨f47, h47, e47⟩ := id m47
  obtain ⟨f48, h48, e48⟩ := id m48
  obtain ⟨f49, h49, e49⟩ := id m49
  obtain ⟨pf, cf, h50, h51, hMR⟩ := id mD
  obtain ⟨f57, h57, e57⟩ := id m57
  obtain ⟨f58, h58, e58⟩ := id m58
  obtain ⟨f59, h59, e59⟩ := id m59
  obtain ⟨w0, w1, w2, w3, w4, w5, w6⟩ := id hW
  obtain ⟨f54, h54⟩ := id m54
  obtain ⟨f55, h55⟩ := id m55
  obtain ⟨f56, h56⟩ := id m56
  have LX : (((0 ≤ s ∧ s < 4) ∧ (0 ≤ l ∧ l < 3) ∧ (0 ≤ n ∧ n ≤ 20) ∧ ((0 ≤ w ∧ w ≤ 4) ∨ (10 ≤ w ∧ w < 15))) ∧ fot (th s) (la s) (ln s) l i (2 * n) = 0 ∧ 0 < ns) → rfN f45 (60 * s + i) ns 0 n.toNat = 0 → ∀ q0 : Int, PW K X 10 (QM K X (fun r μ' => (∀ a, a < 42 → μ' a = μ a) ∧ (if ¬ (0 ≤ s ∧ s < 4) then r = some (vI (-1)) ∧ MV np ns day nr tr (0) rg kd nm sg pt ca rs rp rl th la ln ce μ' else if ¬ ((0 ≤ l ∧ l < 3) ∧ (0 ≤ n ∧ n ≤ 20) ∧ ((0 ≤ w ∧ w ≤ 4) ∨ (10 ≤ w ∧ w < 15))) then r = some (vI (-2)) ∧ MV np ns day nr tr (0) rg kd nm sg pt ca rs rp rl th la ln ce μ' else if fot (th s) (la s) (ln s) l i (2 * n) ≠ 0 then r = some (vI (-10 - fot (th s) (la s) (ln s) l i (2 * n))) ∧ MV np ns day nr tr (fot (th s) (la s) (ln s) l i (2 * n)) rg kd nm sg pt ca rs rp rl th la ln ce μ' else if ¬ 0 < ns then r = some (vI (-3)) ∧ MV np ns day nr tr (0) rg kd nm sg pt ca rs rp rl th la ln ce μ' else if rfN (cAt (ln s) (ce s)) i ns 0 n.toNat ≠ 0 then r = some (vI (rfN (cAt (ln s) (ce s)) i ns 0 n.toNat)) ∧ MV np ns day nr tr (0) rg kd nm sg pt ca rs rp rl th la ln ce μ' else r = some (vI (vyR w ns nm (vyN (cAt (ln s) (ce s)) i np ns rg kd nm sg 0 (pt, ca, 0, 0, -9) n.toNat))) ∧ MV np ns day nr tr (0) rg kd nm sg pt ca rs rp rl th la ln ce μ'))) 156 [(8, vI q0), (7, vI (60 * s + i)), (6, vI 0), (0, vR 42), (1, vI s), (2, vI l), (3, vI i), (4, vI n), (5, vI w)] [] (mup μ 42 (oM 0 tr np ns day at_ rP rS lp lw lf sL sF nr)) := by
    intro g3 hok q0
    have hz := fot_0 g3.2.1
    have q4 := e44 s (by omega) (by omega)
    obtain ⟨y1, y2, y3⟩ := w6 s (by omega) (by omega)
    have key : ∀ j, 0 ≤ j → j < 2 * n → f45 ((60 * s + i) + j) = cAt (ln s) (ce s) (i + j) := fun j j0 j1 => by
      unfold cAt; rw [if_pos (by omega), show 60 * s + i + j = 60 * s + (i + j) by omega]; exact e45 s (by omega) (by omega) (by omega) (i + j) (by omega) (by omega)
    have hrf := rfN_c (ns := ns) key n.toNat 0 (by omega) (by omega)
    have hvy := vyN_c (np := np) (ns := ns) (rg := rg) (kd := kd) (nm := nm) (sg := sg) key n.toNat 0 (pt, ca, 0, 0, -9) (by omega) (by omega)
    refine p_aload_n (pc := 156) C dX5_voyage_156 rfl ?_
    refine p_callVV (pc := 157) C ln_X5_177 dX5_voyage_157 (k_X5_keep (by (repeat refine mg_n (by omega) ?_); first | assumption | exact mup_s _ _ _) (by omega) (by (repeat refine mg_n (by omega) ?_); first | assumption | exact mup_s _ _ _) (by (repeat refine mg_n (by omega) ?_); first | assumption | exact mup_s _ _ _) (by (repeat refine mg_n (by omega) ?_); first | assumption | exact mup_s _ _ _) (by (repeat refine mg_n (by omega) ?_); first | assumption | exact mup_s _ _ _)) ⟨by omega, by omega⟩ (by (repeat refine mg_n (by omega) ?_); first | assumption | exact mup_s _ _ _) rfl rfl rfl rfl (Nat.le_of_ble_eq_true rfl) (fun μ' hpost => ?_)
    obtain ⟨x, y, rfl, hx, hy⟩ := hpost
    refine p_aload_n (pc := 160) C dX5_voyage_160 rfl ?_
    refine p_iload (pc := 161) C dX5_voyage_161 rfl ?_
    refine p_iload (pc := 163) C dX5_voyage_163 rfl ?_
    refine p_callVI (pc := 165) C ln_X5_180 dX5_voyage_165 (k_X5_goVoyage (pt := pt) (ca := ca) (F := f45) (by (repeat refine mg_n (by omega) ?_); first | assumption | exact mup_s _ _ _) (by omega) (by omega) (rg := rg) (kd := kd) (nm := nm) (sg := sg) (MB_kk mB _ _ _) (by (repeat refine mg_n (by omega) ?_); first | assumption | exact mup_s _ _ _) (by (repeat refine mg_n (by omega) ?_); first | assumption | exact mup_s _ _ _) (by (repeat refine mg_n (by omega) ?_); first | assumption | exact mup_s _ _ _) hMR w4 w3 (by omega) (by omega) (fun j j0 j1 => rfN_ok _ _ _ _ _ hok j j0 (by omega))) ⟨by omega, by omega⟩ (by (repeat refine mg_n (by omega) ?_); first | assumption | exact mup_s _ _ _) rfl rfl rfl rfl (Nat.le_of_ble_eq_true rfl) (fun z μ' hpost => ?_)
    obtain ⟨hz2, hMI⟩ := hpost
    have hWV := WS_vy (F := f45) (fr := 60 * s + i) (np := np) (rg := rg) w3 (by omega) n.toNat 0 (pt, ca, 0, 0, -9) w4
    obtain ⟨v0, ⟨p7, c7, v50, v51, vR⟩, vo⟩ := id hMI
    have vB := MB_o (MB_kk mB _ _ _) vo
    have v54 : μ' 54 = mA 5 x := (vo 54 (by omega) (by omega) (by omega)).trans (mg_n (by omega) (mup_s _ _ _))
    have v55 : μ' 55 = mA 20 y := (vo 55 (by omega) (by omega) (by omega)).trans (mup_s _ _ _)
    subst hz2
    refine p_istore (pc := 168) (ls' := [(8, _), (7, _), (6, _), (0, _), (1, _), (2, _), (3, _), (4, _), (5, _)]) C dX5_voyage_168 (by decide) rfl ?_
    refine p_aload_n (pc := 170) C dX5_voyage_170 rfl ?_
    refine p_iload (pc := 171) C dX5_voyage_171 rfl ?_
    refine p_callVF (pc := 173) C ln_X5_183 dX5_voyage_173 (k_X5_tellVoyage (S := (vyN f45 (60 * s + i) np ns rg kd nm sg 0 (pt, ca, 0, 0, -9) n.toNat).2) v0 (by omega) (by omega) vB v51 vR hWV.1 w3 (by omega)) ⟨by omega, by omega⟩ (by (repeat refine mg_n (by omega) ?_); first | assumption | exact mup_s _ _ _) rfl rfl rfl rfl (Nat.le_of_ble_eq_true rfl) ?_
    refine p_istore (pc := 176) (ls' := [(9, _), (8, _), (7, _), (6, _), (0, _), (1, _), (2, _), (3, _), (4, _), (5, _)]) C dX5_voyage_176 (by decide) rfl ?_
    refine p_aload_n (pc := 178) C dX5_voyage_178 rfl ?_
    refine p_callVV (pc := 179) C ln_X5_186 dX5_voyage_179 (k_X5_putBack v0 (by omega) v54 v55 v50 v51) ⟨by omega, by omega⟩ (by (repeat refine mg_n (by omega) ?_); first | assumption | exact mup_s _ _ _) rfl rfl rfl rfl (Nat.le_of_ble_eq_true rfl) (fun μ' hpost => ?_)
    obtain ⟨x2, y2, rfl, hx2, hy2⟩ := hpost
    have hfin := MV_g (fl' := 0) hV ⟨_, _, _, _, _, _, _, _, mg_n (by omega) (mg_n (by omega) v0)⟩ ⟨x2, y2, mg_n (by omega) (mup_s _ _ _), mup_s _ _ _, MR_kp hMR (fun q q0 q1 => (hx2 q q0 q1).trans (hx q q0 q1)) (fun q q0 q1 => (hy2 q q0 q1).trans (hy q q0 q1))⟩ ⟨x, mg_n (by omega) (mg_n (by omega) v54)⟩ ⟨y, mg_n (by omega) (mg_n (by omega) v55)⟩ ⟨f56, mg_n (by omega) (mg_n (by omega) ((vo 56 (by omega) (by omega) (by omega)).trans (mg_n (by omega) (mg_n (by omega) (mg_n (by omega) h56)))))⟩ (fun z z0 z1 z2 z3 z4 z5 => mg_n z2 (mg_n z1 ((vo z z0 z1 z2).trans (mg_n z4 (mg_n z3 (mg_n z0 rfl))))))
    refine p_iload (pc := 182) C dX5_voyage_182 rfl ?_
    refine p_iconst (pc := 184) C dX5_voyage_184 (by decide) ?_
    refine p_icmp_ne (pc := 185) (tgt := 193) C dX5_voyage_185 (by decide) (fun c_185 => ?_) (fun c_185 => ?_)
    · refine p_iload (pc := 193) C dX5_voyage_193 rfl ?_
      refine p_bipush (pc := 195) C dX5_voyage_195 (by decide) ?_
      refine p_icmp_ne (pc := 197) (tgt := 205) C dX5_voyage_197 (by decide) (fun c_197 => ?_) (fun c_197 => ?_)
      · refine p_bipush (pc := 205) C dX5_voyage_205 (by decide) ?_
        refine p_iload (pc := 207) C dX5_voyage_207 rfl ?_
        refine p_isub (pc := 209) C dX5_voyage_209 ⟨by omega, by omega⟩ ?_
        refine p_iret (pc := 210) C dX5_voyage_210 ?_
        first
          | (exfalso; omega)
          | (refine ⟨fun q hq => mg_n (by omega) (mg_n (by omega) ((vo q (by omega) (by omega) (by omega)).trans (mg_n (by omega) (mg_n (by omega) (mg_n (by omega) rfl))))), ?_⟩; rw [if_neg (by omega), if_neg (by omega), if_neg (by omega), if_neg (by omega), if_neg (by omega)]; exact ⟨sv (by rw [← hvy]; unfold vyR; rw [if_pos (by omega)]), hfin⟩)
          | (refine ⟨fun q hq => mg_n (by omega) (mg_n (by omega) ((vo q (by omega) (by omega) (by omega)).trans (mg_n (by omega) (mg_n (by omega) (mg_n (by omega) rfl))))), ?_⟩; rw [if_neg (by omega), if_neg (by omega), if_neg (by omega), if_neg (by omega), if_neg (by omega)]; exact ⟨sv (by rw [← hvy]; unfold vyR; rw [if_neg (by omega), if_pos (by omega)]), hfin⟩)
          | (refine ⟨fun q hq => mg_n (by omega) (mg_n (by omega) ((vo q (by omega) (by omega) (by omega)).trans (mg_n (by omega) (mg_n (by omega) (mg_n (by omega) rfl))))), ?_⟩; rw [if_neg (by omega), if_neg (by omega), if_neg (by omega), if_neg (by omega), if_neg (by omega)]; exact ⟨sv (by rw [← hvy]; exact tv_e (by omega) c_197), hfin⟩)
      · refine p_iload (pc := 200) C dX5_voyage_200 rfl ?_
        refine p_goto (pc := 202) (tgt := 210) C dX5_voyage_202 (by decide) ?_
        refine p_iret (pc := 210) C dX5_voyage_210 ?_
        first
          | (exfalso; omega)
          | (refine ⟨fun q hq => mg_n (by omega) (mg_n (by omega) ((vo q (by omega) (by omega) (by omega)).trans (mg_n (by omega) (mg_n (by omega) (mg_n (by omega) rfl))))), ?_⟩; rw [if_neg (by omega), if_neg (by omega), if_neg (by omega), if_neg (by omega), if_neg (by omega)]; exact ⟨sv (by rw [← hvy]; unfold vyR; rw [if_pos (by omega)]), hfin⟩)
          | (refine ⟨fun q hq => mg_n (by omega) (mg_n (by omega) ((vo q (by omega) (by omega) (by omega)).trans (mg_n (by omega) (mg_n (by omega) (mg_n (by omega) rfl))))), ?_⟩; rw [if_neg (by omega), if_neg (by omega), if_neg (by omega), if_neg (by omega), if_neg (by omega)]; exact ⟨sv (by rw [← hvy]; unfold vyR; rw [if_neg (by omega), if_pos (by omega)]), hfin⟩)
          | (refine ⟨fun q hq => mg_n (by omega) (mg_n (by omega) ((vo q (by omega) (by omega) (by omega)).trans (mg_n (by omega) (mg_n (by omega) (mg_n (by omega) rfl))))), ?_⟩; rw [if_neg (by omega), if_neg (by omega), if_neg (by omega), if_neg (by omega), if_neg (by omega)]; exact ⟨sv (by rw [← hvy]; exact tv_e (by omega) c_197), hfin⟩)
    · refine p_iload (pc := 188) C dX5_voyage_188 rfl ?_
      refine p_goto (pc := 190) (tgt := 210) C dX5_voyage_190 (by decide) ?_
      refine p_iret (pc := 210) C dX5_voyage_210 ?_
      first
        | (exfalso; omega)
        | (refine ⟨fun q hq => mg_n (by omega) (mg_n (by omega) ((vo q (by omega) (by omega) (by omega)).trans (mg_n (by omega) (mg_n (by omega) (mg_n (by omega) rfl))))), ?_⟩; rw [if_neg (by omega), if_neg (by omega), if_neg (by omega), if_neg (by omega), if_neg (by omega)]; exact ⟨sv (by rw [← hvy]; unfold vyR; rw [if_pos (by omega)]), hfin⟩)
        | (refine ⟨fun q hq => mg_n (by omega) (mg_n (by omega) ((vo q (by omega) (by omega) (by omega)).trans (mg_n (by omega) (mg_n (by omega) (mg_n (by omega) rfl))))), ?_⟩; rw [if_neg (by omega), if_neg (by omega), if_neg (by omega), if_neg (by omega), if_neg (by omega)]; exact ⟨sv (by rw [← hvy]; unfold vyR; rw [if_neg (by omega), if_pos (by omega)]), hfin⟩)
        | (refine ⟨fun q hq => mg_n (by omega) (mg_n (by omega) ((vo q (by omega) (by omega) (by omega)).trans (mg_n (by omega) (mg_n (by omega) (mg_n (by omega) rfl))))), ?_⟩; rw [if_neg (by omega), if_neg (by omega), if_neg (by omega), if_neg (by omega), if_neg (by omega)]; exact ⟨sv (by rw [← hvy]; exact tv_e (by omega) c_197), hfin⟩)
  have L : ∀ (t : Nat) (q : Int), 0 ≤ q → n - q = (t : Int) → (((0 ≤ s ∧ s < 4) ∧ (0 ≤ l ∧ l < 3) ∧ (0 ≤ n ∧ n ≤ 20) ∧ ((0 ≤ w ∧ w ≤ 4) ∨ (10 ≤ w ∧ w < 15))) ∧ fot (th s) (la s) (ln s) l i (2 * n) = 0 ∧ 0 < ns) → rfN f45 (60 * s + i) ns q t = rfN f45 (60 * s + i) ns 0 n.toNat → PW K X 10 (QM K X (fun r μ' => (∀ a, a < 42 → μ' a = μ a) ∧ (if ¬ (0 ≤ s ∧ s < 4) then r = some (vI (-1)) ∧ MV np ns day nr tr (0) rg kd nm sg pt ca rs rp rl th la ln ce μ' else if ¬ ((0 ≤ l ∧ l < 3) ∧ (0 ≤ n ∧ n ≤ 20) ∧ ((0 ≤ w ∧ w ≤ 4) ∨ (10 ≤ w ∧ w < 15))) then r = some (vI (-2)) ∧ MV np ns day nr tr (0) rg kd nm sg pt ca rs rp rl th la ln ce μ' else if fot (th s) (la s) (ln s) l i (2 * n) ≠ 0 then r = some (vI (-10 - fot (th s) (la s) (ln s) l i (2 * n))) ∧ MV np ns day nr tr (fot (th s) (la s) (ln s) l i (2 * n)) rg kd nm sg pt ca rs rp rl th la ln ce μ' else if ¬ 0 < ns then r = some (vI (-3)) ∧ MV np ns day nr tr (0) rg kd nm sg pt ca rs rp rl th la ln ce μ' else if rfN (cAt (ln s) (ce s)) i ns 0 n.toNat ≠ 0 then r = some (vI (rfN (cAt (ln s) (ce s)) i ns 0 n.toNat)) ∧ MV np ns day nr tr (0) rg kd nm sg pt ca rs rp rl th la ln ce μ' else r = some (vI (vyR w ns nm (vyN (cAt (ln s) (ce s)) i np ns rg kd nm sg 0 (pt, ca, 0, 0, -9) n.toNat))) ∧ MV np ns day nr tr (0) rg kd nm sg pt ca rs rp rl th la ln ce μ'))) 103 [(8, vI q), (7, vI (60 * s + i)), (6, vI 0), (0, vR 42), (1, vI s), (2, vI l), (3, vI i), (4, vI n), (5, vI w)] [] (mup μ 42 (oM 0 tr np ns day at_ rP rS lp lw lf sL sF nr)) := by
    intro t
    induction t with
    | zero =>
      intro q g1 g2 g3 g4
      have hz := fot_0 g3.2.1
      have q4 := e44 s (by omega) (by omega)
      obtain ⟨y1, y2, y3⟩ := w6 s (by omega) (by omega)
      have key : ∀ j, 0 ≤ j → j < 2 * n → f45 ((60 * s + i) + j) = cAt (ln s) (ce s) (i + j) := fun j j0 j1 => by
        unfold cAt; rw [if_pos (by omega), show 60 * s + i + j = 60 * s + (i + j) by omega]; exact e45 s (by omega) (by omega) (by omega) (i + j) (by omega) (by omega)
      have hrf := rfN_c (ns := ns) key n.toNat 0 (by omega) (by omega)
      have hvy := vyN_c (np := np) (ns := ns) (rg := rg) (kd := kd) (nm := nm) (sg := sg) key n.toNat 0 (pt, ca, 0, 0, -9) (by omega) (by omega)
      refine p_iload (pc := 103) C dX5_voyage_103 rfl ?_
      refine p_iload (pc := 105) C dX5_voyage_105 rfl ?_
      refine p_icmp_ge (pc := 107) (tgt := 156) C dX5_voyage_107 (by decide) (fun c_107 => ?_) (fun h => by exfalso; omega)
      exact LX g3 (by rw [← g4]; rfl) q
    | succ t ih =>
      intro q g1 g2 g3 g4
      have hz := fot_0 g3.2.1
      have q4 := e44 s (by omega) (by omega)
      obtain ⟨y1, y2, y3⟩ := w6 s (by omega) (by omega)
      have key : ∀ j, 0 ≤ j → j < 2 * n → f45 ((60 * s + i) + j) = cAt (ln s) (ce s) (i + j) := fun j j0 j1 => by
        unfold cAt; rw [if_pos (by omega), show 60 * s + i + j = 60 * s + (i + j) by omega]; exact e45 s (by omega) (by omega) (by omega) (i + j) (by omega) (by omega)
      have hrf := rfN_c (ns := ns) key n.toNat 0 (by omega) (by omega)
      have hvy := vyN_c (np := np) (ns := ns) (rg := rg) (kd := kd) (nm := nm) (sg := sg) key n.toNat 0 (pt, ca, 0, 0, -9) (by omega) (by omega)
      rw [rf_s] at g4
      refine p_iload (pc := 103) C dX5_voyage_103 rfl ?_
      refine p_iload (pc := 105) C dX5_voyage_105 rfl ?_
      refine p_icmp_ge (pc := 107) (tgt := 156) C dX5_voyage_107 (by decide) (fun h => by exfalso; omega) (fun c_107 => ?_)
      refine p_aload_n (pc := 110) C dX5_voyage_110 rfl ?_
      refine p_aload_n (pc := 111) C dX5_voyage_111 rfl ?_
      refine p_get (pc := 112) C fl_X5_16 dX5_voyage_112 ⟨by omega, by omega⟩ (by (repeat refine mg_n (by omega) ?_); first | assumption | exact mup_s _ _ _) (by rfl) ?_
      refine p_iload (pc := 115) C dX5_voyage_115 rfl ?_
      refine p_iconst (pc := 117) C dX5_voyage_117 (by decide) ?_
      refine p_iload (pc := 118) C dX5_voyage_118 rfl ?_
      refine p_imul (pc := 120) C dX5_voyage_120 ⟨by omega, by omega⟩ ?_
      refine p_iadd (pc := 121) C dX5_voyage_121 ⟨by omega, by omega⟩ ?_
      refine p_iald (pc := 122) C dX5_voyage_122 ⟨by omega, by omega⟩ (by (repeat refine mg_n (by omega) ?_); first | assumption | exact mup_s _ _ _) (by omega) ?_
      refine p_aload_n (pc := 123) C dX5_voyage_123 rfl ?_
      refine p_get (pc := 124) C fl_X5_16 dX5_voyage_124 ⟨by omega, by omega⟩ (by (repeat refine mg_n (by omega) ?_); first | assumption | exact mup_s _ _ _) (by rfl) ?_
      refine p_iload (pc := 127) C dX5_voyage_127 rfl ?_
      refine p_iconst (pc := 129) C dX5_voyage_129 (by decide) ?_
      refine p_iload (pc := 130) C dX5_voyage_130 rfl ?_
      refine p_imul (pc := 132) C dX5_voyage_132 ⟨by omega, by omega⟩ ?_
      refine p_iadd (pc := 133) C dX5_voyage_133 ⟨by omega, by omega⟩ ?_
      refine p_iconst (pc := 134) C dX5_voyage_134 (by decide) ?_
      refine p_iadd (pc := 135) C dX5_voyage_135 ⟨by omega, by omega⟩ ?_
      refine p_iald (pc := 136) C dX5_voyage_136 ⟨by omega, by omega⟩ (by (repeat refine mg_n (by omega) ?_); first | assumption | exact mup_s _ _ _) (by omega) ?_
      refine p_callVF (pc := 137) C ln_X5_173 dX5_voyage_137 (k_X5_refusesPair (by (repeat refine mg_n (by omega) ?_); first | assumption | exact mup_s _ _ _)) ⟨by omega, by omega⟩ (by (repeat refine mg_n (by omega) ?_); first | assumption | exact mup_s _ _ _) rfl rfl rfl rfl (Nat.le_of_ble_eq_true rfl) ?_
      refine p_istore (pc := 140) (ls' := [(9, _), (8, _), (7, _), (6, _), (0, _), (1, _), (2, _), (3, _), (4, _), (5, _)]) C dX5_voyage_140 (by decide) rfl ?_
      refine p_iload (pc := 142) C dX5_voyage_142 rfl ?_
      refine p_if_eq (pc := 144) (tgt := 150) C dX5_voyage_144 (by decide) (fun c_144 => ?_) (fun c_144 => ?_)
      · refine p_iinc (pc := 150) (ls' := [(8, _), (9, _), (7, _), (6, _), (0, _), (1, _), (2, _), (3, _), (4, _), (5, _)]) C dX5_voyage_150 (by decide) rfl ⟨by omega, by omega⟩ rfl ?_
        refine p_goto (pc := 153) (tgt := 103) C dX5_voyage_153 (by decide) ?_
        refine p_pick [0, 2, 3, 4, 5, 6, 7, 8, 9] (ls' := [(8, _), (7, _), (6, _), (0, _), (1, _), (2, _), (3, _), (4, _), (5, _)]) rfl ?_
        rw [if_pos c_144] at g4
        exact ih (q + 1) (by omega) (by omega) g3 g4
      · refine p_iload (pc := 147) C dX5_voyage_147 rfl ?_
        refine p_iret (pc := 149) C dX5_voyage_149 ?_
        first
          | (exfalso; omega)
          | (rw [if_neg c_144] at g4; refine ⟨fun q hq => by (repeat (refine mg_n (by omega) ?_)); rfl, ?_⟩; rw [if_neg (by omega), if_neg (by omega), if_neg (by omega), if_neg (by omega), ← hrf, ← g4, if_pos c_144]; exact ⟨rfl, MV_42 hV (by omega)⟩)
  refine p_aload_n (pc := 0) C dX5_voyage_0 rfl ?_
  refine p_iconst (pc := 1) C dX5_voyage_1 (by decide) ?_
  refine p_putL (pc := 2) (fs' := [_, _, _, _, _, _, _, _, _, _, _, _, _, _, _, _, _, _, _, _, _, _, _, _, _, _, _, _, _, _, _]) C fp_X5_61 dX5_voyage_2 ⟨by omega, by omega⟩ (by (repeat refine mg_n (by omega) ?_); first | assumption | exact mup_s _ _ _) (by exact Nat.le_of_ble_eq_true rfl) (by rfl) ?_
  try refine p_mem (mup_mup _ _ _ _) ?_
  refine p_iload_n (pc := 5) C dX5_voyage_5 rfl ?_
  refine p_callSF (pc := 6) C ln_X5_80 dX5_voyage_6 (k_X5_isSheet) rfl rfl (Nat.le_of_ble_eq_true rfl) ?_
  refine p_ifne_b (pc := 9) (tgt := 14) C dX5_voyage_9 (by decide) (fun c_9 => ?_) (fun c_9 => ?_)
  · refine p_iload_n (pc := 14) C dX5_voyage_14 rfl ?_
    refine p_callSF (pc := 15) C ln_X5_84 dX5_voyage_15 (k_X5_isSort) rfl rfl (Nat.le_of_ble_eq_true rfl) ?_
    refine p_ifeq_b (pc := 18) (tgt := 54) C dX5_voyage_18 (by decide) (fun c_18 => ?_) (fun c_18 => ?_)
    · refine p_bipush (pc := 54) C dX5_voyage_54 (by decide) ?_
      refine p_iret (pc := 56) C dX5_voyage_56 ?_
      first
        | (exfalso; omega)
        | (refine ⟨fun q hq => by (repeat (refine mg_n (by omega) ?_)); rfl, ?_⟩; rw [if_pos (by omega)]; exact ⟨rfl, MV_42 hV (by omega)⟩)
        | (refine ⟨fun q hq => by (repeat (refine mg_n (by omega) ?_)); rfl, ?_⟩; rw [if_neg (by omega), if_pos (by omega)]; exact ⟨rfl, MV_42 hV (by omega)⟩)
        | (refine ⟨fun q hq => by (repeat (refine mg_n (by omega) ?_)); rfl, ?_⟩; rw [if_neg (by omega), if_neg (by omega), if_pos (by omega)]; exact ⟨rfl, MV_42 hV (by omega)⟩)
        | (refine ⟨fun q hq => by (repeat (refine mg_n (by omega) ?_)); rfl, ?_⟩; rw [if_neg (by omega), if_neg (by omega), if_neg (by omega), if_pos (by omega)]; exact ⟨rfl, MV_42 hV (by omega)⟩)
    · refine p_iload (pc := 21) C dX5_voyage_21 rfl ?_
      refine p_iconst (pc := 23) C dX5_voyage_23 (by decide) ?_
      refine p_bipush (pc := 24) C dX5_voyage_24 (by decide) ?_
      refine p_callSF (pc := 26) C ln_X5_67 dX5_voyage_26 (k_X5_within) rfl rfl (Nat.le_of_ble_eq_true rfl) ?_
      refine p_ifeq_b (pc := 29) (tgt := 54) C dX5_voyage_29 (by decide) (fun c_29 => ?_) (fun c_29 => ?_)
      · refine p_bipush (pc := 54) C dX5_voyage_54 (by decide) ?_
        refine p_iret (pc := 56) C dX5_voyage_56 ?_
        first
          | (exfalso; omega)
          | (refine ⟨fun q hq => by (repeat (refine mg_n (by omega) ?_)); rfl, ?_⟩; rw [if_pos (by omega)]; exact ⟨rfl, MV_42 hV (by omega)⟩)
          | (refine ⟨fun q hq => by (repeat (refine mg_n (by omega) ?_)); rfl, ?_⟩; rw [if_neg (by omega), if_pos (by omega)]; exact ⟨rfl, MV_42 hV (by omega)⟩)
          | (refine ⟨fun q hq => by (repeat (refine mg_n (by omega) ?_)); rfl, ?_⟩; rw [if_neg (by omega), if_neg (by omega), if_pos (by omega)]; exact ⟨rfl, MV_42 hV (by omega)⟩)
          | (refine ⟨fun q hq => by (repeat (refine mg_n (by omega) ?_)); rfl, ?_⟩; rw [if_neg (by omega), if_neg (by omega), if_neg (by omega), if_pos (by omega)]; exact ⟨rfl, MV_42 hV (by omega)⟩)
      · refine p_iload (pc := 32) C dX5_voyage_32 rfl ?_
        refine p_iconst (pc := 34) C dX5_voyage_34 (by decide) ?_
        refine p_iconst (pc := 35) C dX5_voyage_35 (by decide) ?_
        refine p_callSF (pc := 36) C ln_X5_67 dX5_voyage_36 (k_X5_within) rfl rfl (Nat.le_of_ble_eq_true rfl) ?_
        refine p_ifne_b (pc := 39) (tgt := 57) C dX5_voyage_39 (by decide) (fun c_39 => ?_) (fun c_39 => ?_)
        · refine p_aload_n (pc := 57) C dX5_voyage_57 rfl ?_
          refine p_iload_n (pc := 58) C dX5_voyage_58 rfl ?_
          refine p_iload_n (pc := 59) C dX5_voyage_59 rfl ?_
          refine p_iload_n (pc := 60) C dX5_voyage_60 rfl ?_
          refine p_iconst (pc := 61) C dX5_voyage_61 (by decide) ?_
          refine p_iload (pc := 62) C dX5_voyage_62 rfl ?_
          refine p_imul (pc := 64) C dX5_voyage_64 ⟨by omega, by omega⟩ ?_
          refine p_callVF (pc := 65) C ln_X5_87 dX5_voyage_65 (k_X5_against (by (repeat refine mg_n (by omega) ?_); first | assumption | exact mup_s _ _ _) (by (repeat refine mg_n (by omega) ?_); first | assumption | exact mup_s _ _ _) (by (repeat refine mg_n (by omega) ?_); first | assumption | exact mup_s _ _ _) (by omega) (fun hq => by have q3 := e43 s (by omega) (by omega); have q4 := e44 s (by omega) (by omega); obtain ⟨y1, y2, y3⟩ := w6 s (by omega) (by omega); omega)) ⟨by omega, by omega⟩ (by (repeat refine mg_n (by omega) ?_); first | assumption | exact mup_s _ _ _) rfl rfl rfl rfl (Nat.le_of_ble_eq_true rfl) ?_
          refine p_top (ag_fot (e43 s (by omega) (by omega)) (e44 s (by omega) (by omega)) (by omega) (w6 s (by omega) (by omega)).2.1 (w6 s (by omega) (by omega)).1) ?_
          have hfr := @fot_r (th s) (la s) (ln s) l i (2 * n)
          refine p_istore (pc := 68) (ls' := [(6, _), (0, _), (1, _), (2, _), (3, _), (4, _), (5, _)]) C dX5_voyage_68 (by decide) rfl ?_
          refine p_iload (pc := 70) C dX5_voyage_70 rfl ?_
          refine p_if_eq (pc := 72) (tgt := 82) C dX5_voyage_72 (by decide) (fun c_72 => ?_) (fun c_72 => ?_)
          · refine p_aload_n (pc := 82) C dX5_voyage_82 rfl ?_
            refine p_get (pc := 83) C fl_X5_71 dX5_voyage_83 ⟨by omega, by omega⟩ (by (repeat refine mg_n (by omega) ?_); first | assumption | exact mup_s _ _ _) (by rfl) ?_
            refine p_if_ne (pc := 86) (tgt := 92) C dX5_voyage_86 (by decide) (fun c_86 => ?_) (fun c_86 => ?_)
            · have hz := fot_0 c_72
              obtain ⟨y1, y2, y3⟩ := w6 s (by omega) (by omega)
              refine p_bipush (pc := 92) C dX5_voyage_92 (by decide) ?_
              refine p_iload_n (pc := 94) C dX5_voyage_94 rfl ?_
              refine p_imul (pc := 95) C dX5_voyage_95 ⟨by omega, by omega⟩ ?_
              refine p_iload_n (pc := 96) C dX5_voyage_96 rfl ?_
              refine p_iadd (pc := 97) C dX5_voyage_97 ⟨by omega, by omega⟩ ?_
              refine p_istore (pc := 98) (ls' := [(7, _), (6, _), (0, _), (1, _), (2, _), (3, _), (4, _), (5, _)]) C dX5_voyage_98 (by decide) rfl ?_
              refine p_iconst (pc := 100) C dX5_voyage_100 (by decide) ?_
              refine p_istore (pc := 101) (ls' := [(8, _), (7, _), (6, _), (0, _), (1, _), (2, _), (3, _), (4, _), (5, _)]) C dX5_voyage_101 (by decide) rfl ?_
              refine p_ls (by rw [c_72]) ?_
              exact L n.toNat 0 (by omega) (by omega) (by omega) rfl
            · refine p_bipush (pc := 89) C dX5_voyage_89 (by decide) ?_
              refine p_iret (pc := 91) C dX5_voyage_91 ?_
              first
                | (exfalso; omega)
                | (refine ⟨fun q hq => by (repeat (refine mg_n (by omega) ?_)); rfl, ?_⟩; rw [if_pos (by omega)]; exact ⟨rfl, MV_42 hV (by omega)⟩)
                | (refine ⟨fun q hq => by (repeat (refine mg_n (by omega) ?_)); rfl, ?_⟩; rw [if_neg (by omega), if_pos (by omega)]; exact ⟨rfl, MV_42 hV (by omega)⟩)
                | (refine ⟨fun q hq => by (repeat (refine mg_n (by omega) ?_)); rfl, ?_⟩; rw [if_neg (by omega), if_neg (by omega), if_pos (by omega)]; exact ⟨rfl, MV_42 hV (by omega)⟩)
                | (refine ⟨fun q hq => by (repeat (refine mg_n (by omega) ?_)); rfl, ?_⟩; rw [if_neg (by omega), if_neg (by omega), if_neg (by omega), if_pos (by omega)]; exact ⟨rfl, MV_42 hV (by omega)⟩)
          · refine p_aload_n (pc := 75) C dX5_voyage_75 rfl ?_
            refine p_iload (pc := 76) C dX5_voyage_76 rfl ?_
            refine p_callVF (pc := 78) C ln_X5_91 dX5_voyage_78 (k_X5_fails (by omega) (by (repeat refine mg_n (by omega) ?_); first | assumption | exact mup_s _ _ _)) ⟨by omega, by omega⟩ (by (repeat refine mg_n (by omega) ?_); first | assumption | exact mup_s _ _ _) rfl rfl rfl rfl (Nat.le_of_ble_eq_true rfl) ?_
            refine p_mem (mup_mup _ _ _ _) ?_
            refine p_iret (pc := 81) C dX5_voyage_81 ?_
            first
              | (exfalso; omega)
              | (refine ⟨fun q hq => by (repeat (refine mg_n (by omega) ?_)); rfl, ?_⟩; rw [if_pos (by omega)]; exact ⟨rfl, MV_42 hV (by omega)⟩)
              | (refine ⟨fun q hq => by (repeat (refine mg_n (by omega) ?_)); rfl, ?_⟩; rw [if_neg (by omega), if_pos (by omega)]; exact ⟨rfl, MV_42 hV (by omega)⟩)
              | (refine ⟨fun q hq => by (repeat (refine mg_n (by omega) ?_)); rfl, ?_⟩; rw [if_neg (by omega), if_neg (by omega), if_pos (by omega)]; exact ⟨rfl, MV_42 hV (by omega)⟩)
              | (refine ⟨fun q hq => by (repeat (refine mg_n (by omega) ?_)); rfl, ?_⟩; rw [if_neg (by omega), if_neg (by omega), if_neg (by omega), if_pos (by omega)]; exact ⟨rfl, MV_42 hV (by omega)⟩)
        · refine p_iload (pc := 42) C dX5_voyage_42 rfl ?_
          refine p_bipush (pc := 44) C dX5_voyage_44 (by decide) ?_
          refine p_bipush (pc := 46) C dX5_voyage_46 (by decide) ?_
          refine p_callSF (pc := 48) C ln_X5_67 dX5_voyage_48 (k_X5_within) rfl rfl (Nat.le_of_ble_eq_true rfl) ?_
          refine p_ifne_b (pc := 51) (tgt := 57) C dX5_voyage_51 (by decide) (fun c_51 => ?_) (fun c_51 => ?_)
          · refine p_aload_n (pc := 57) C dX5_voyage_57 rfl ?_
            refine p_iload_n (pc := 58) C dX5_voyage_58 rfl ?_
            refine p_iload_n (pc := 59) C dX5_voyage_59 rfl ?_
            refine p_iload_n (pc := 60) C dX5_voyage_60 rfl ?_
            refine p_iconst (pc := 61) C dX5_voyage_61 (by decide) ?_
            refine p_iload (pc := 62) C dX5_voyage_62 rfl ?_
            refine p_imul (pc := 64) C dX5_voyage_64 ⟨by omega, by omega⟩ ?_
            refine p_callVF (pc := 65) C ln_X5_87 dX5_voyage_65 (k_X5_against (by (repeat refine mg_n (by omega) ?_); first | assumption | exact mup_s _ _ _) (by (repeat refine mg_n (by omega) ?_); first | assumption | exact mup_s _ _ _) (by (repeat refine mg_n (by omega) ?_); first | assumption | exact mup_s _ _ _) (by omega) (fun hq => by have q3 := e43 s (by omega) (by omega); have q4 := e44 s (by omega) (by omega); obtain ⟨y1, y2, y3⟩ := w6 s (by omega) (by omega); omega)) ⟨by omega, by omega⟩ (by (repeat refine mg_n (by omega) ?_); first | assumption | exact mup_s _ _ _) rfl rfl rfl rfl (Nat.le_of_ble_eq_true rfl) ?_
            refine p_top (ag_fot (e43 s (by omega) (by omega)) (e44 s (by omega) (by omega)) (by omega) (w6 s (by omega) (by omega)).2.1 (w6 s (by omega) (by omega)).1) ?_
            have hfr := @fot_r (th s) (la s) (ln s) l i (2 * n)
            refine p_istore (pc := 68) (ls' := [(6, _), (0, _), (1, _), (2, _), (3, _), (4, _), (5, _)]) C dX5_voyage_68 (by decide) rfl ?_
            refine p_iload (pc := 70) C dX5_voyage_70 rfl ?_
            refine p_if_eq (pc := 72) (tgt := 82) C dX5_voyage_72 (by decide) (fun c_72 => ?_) (fun c_72 => ?_)
            · refine p_aload_n (pc := 82) C dX5_voyage_82 rfl ?_
              refine p_get (pc := 83) C fl_X5_71 dX5_voyage_83 ⟨by omega, by omega⟩ (by (repeat refine mg_n (by omega) ?_); first | assumption | exact mup_s _ _ _) (by rfl) ?_
              refine p_if_ne (pc := 86) (tgt := 92) C dX5_voyage_86 (by decide) (fun c_86 => ?_) (fun c_86 => ?_)
              · have hz := fot_0 c_72
                obtain ⟨y1, y2, y3⟩ := w6 s (by omega) (by omega)
                refine p_bipush (pc := 92) C dX5_voyage_92 (by decide) ?_
                refine p_iload_n (pc := 94) C dX5_voyage_94 rfl ?_
                refine p_imul (pc := 95) C dX5_voyage_95 ⟨by omega, by omega⟩ ?_
                refine p_iload_n (pc := 96) C dX5_voyage_96 rfl ?_
                refine p_iadd (pc := 97) C dX5_voyage_97 ⟨by omega, by omega⟩ ?_
                refine p_istore (pc := 98) (ls' := [(7, _), (6, _), (0, _), (1, _), (2, _), (3, _), (4, _), (5, _)]) C dX5_voyage_98 (by decide) rfl ?_
                refine p_iconst (pc := 100) C dX5_voyage_100 (by decide) ?_
                refine p_istore (pc := 101) (ls' := [(8, _), (7, _), (6, _), (0, _), (1, _), (2, _), (3, _), (4, _), (5, _)]) C dX5_voyage_101 (by decide) rfl ?_
                refine p_ls (by rw [c_72]) ?_
                exact L n.toNat 0 (by omega) (by omega) (by omega) rfl
              · refine p_bipush (pc := 89) C dX5_voyage_89 (by decide) ?_
                refine p_iret (pc := 91) C dX5_voyage_91 ?_
                first
                  | (exfalso; omega)
                  | (refine ⟨fun q hq => by (repeat (refine mg_n (by omega) ?_)); rfl, ?_⟩; rw [if_pos (by omega)]; exact ⟨rfl, MV_42 hV (by omega)⟩)
                  | (refine ⟨fun q hq => by (repeat (refine mg_n (by omega) ?_)); rfl, ?_⟩; rw [if_neg (by omega), if_pos (by omega)]; exact ⟨rfl, MV_42 hV (by omega)⟩)
                  | (refine ⟨fun q hq => by (repeat (refine mg_n (by omega) ?_)); rfl, ?_⟩; rw [if_neg (by omega), if_neg (by omega), if_pos (by omega)]; exact ⟨rfl, MV_42 hV (by omega)⟩)
                  | (refine ⟨fun q hq => by (repeat (refine mg_n (by omega) ?_)); rfl, ?_⟩; rw [if_neg (by omega), if_neg (by omega), if_neg (by omega), if_pos (by omega)]; exact ⟨rfl, MV_42 hV (by omega)⟩)
            · refine p_aload_n (pc := 75) C dX5_voyage_75 rfl ?_
              refine p_iload (pc := 76) C dX5_voyage_76 rfl ?_
              refine p_callVF (pc := 78) C ln_X5_91 dX5_voyage_78 (k_X5_fails (by omega) (by (repeat refine mg_n (by omega) ?_); first | assumption | exact mup_s _ _ _)) ⟨by omega, by omega⟩ (by (repeat refine mg_n (by omega) ?_); first | assumption | exact mup_s _ _ _) rfl rfl rfl rfl (Nat.le_of_ble_eq_true rfl) ?_
              refine p_mem (mup_mup _ _ _ _) ?_
              refine p_iret (pc := 81) C dX5_voyage_81 ?_
              first
                | (exfalso; omega)
                | (refine ⟨fun q hq => by (repeat (refine mg_n (by omega) ?_)); rfl, ?_⟩; rw [if_pos (by omega)]; exact ⟨rfl, MV_42 hV (by omega)⟩)
                | (refine ⟨fun q hq => by (repeat (refine mg_n (by omega) ?_)); rfl, ?_⟩; rw [if_neg (by omega), if_pos (by omega)]; exact ⟨rfl, MV_42 hV (by omega)⟩)
                | (refine ⟨fun q hq => by (repeat (refine mg_n (by omega) ?_)); rfl, ?_⟩; rw [if_neg (by omega), if_neg (by omega), if_pos (by omega)]; exact ⟨rfl, MV_42 hV (by omega)⟩)
                | (refine ⟨fun q hq => by (repeat (refine mg_n (by omega) ?_)); rfl, ?_⟩; rw [if_neg (by omega), if_neg (by omega), if_neg (by omega), if_pos (by omega)]; exact ⟨rfl, MV_42 hV (by omega)⟩)
          · refine p_bipush (pc := 54) C dX5_voyage_54 (by decide) ?_
            refine p_iret (pc := 56) C dX5_voyage_56 ?_
            first
              | (exfalso; omega)
              | (refine ⟨fun q hq => by (repeat (refine mg_n (by omega) ?_)); rfl, ?_⟩; rw [if_pos (by omega)]; exact ⟨rfl, MV_42 hV (by omega)⟩)
              | (refine ⟨fun q hq => by (repeat (refine mg_n (by omega) ?_)); rfl, ?_⟩; rw [if_neg (by omega), if_pos (by omega)]; exact ⟨rfl, MV_42 hV (by omega)⟩)
              | (refine ⟨fun q hq => by (repeat (refine mg_n (by omega) ?_)); rfl, ?_⟩; rw [if_neg (by omega), if_neg (by omega), if_pos (by omega)]; exact ⟨rfl, MV_42 hV (by omega)⟩)
              | (refine ⟨fun q hq => by (repeat (refine mg_n (by omega) ?_)); rfl, ?_⟩; rw [if_neg (by omega), if_neg (by omega), if_neg (by omega), if_pos (by omega)]; exact ⟨rfl, MV_42 hV (by omega)⟩)
  · refine p_iconst (pc := 12) C dX5_voyage_12 (by decide) ?_
    refine p_iret (pc := 13) C dX5_voyage_13 ?_
    first
      | (exfalso; omega)
      | (refine ⟨fun q hq => by (repeat (refine mg_n (by omega) ?_)); rfl, ?_⟩; rw [if_pos (by omega)]; exact ⟨rfl, MV_42 hV (by omega)⟩)
      | (refine ⟨fun q hq => by (repeat (refine mg_n (by omega) ?_)); rfl, ?_⟩; rw [if_neg (by omega), if_pos (by omega)]; exact ⟨rfl, MV_42 hV (by omega)⟩)
      | (refine ⟨fun q hq => by (repeat (refine mg_n (by omega) ?_)); rfl, ?_⟩; rw [if_neg (by omega), if_neg (by omega), if_pos (by omega)]; exact ⟨rfl, MV_42 hV (by omega)⟩)
      | (refine ⟨fun q hq => by (repeat (refine mg_n (by omega) ?_)); rfl, ?_⟩; rw [if_neg (by omega), if_neg (by omega), if_neg (by omega), if_pos (by omega)]; exact ⟨rfl, MV_42 hV (by omega)⟩)
