/-- answers that the ops give -/
def ofS (kd nm sg pt : Int) (f : Int → Int) (w : Int) : Int := if w = 0 then kd else if w = 1 then nm else if w = 2 then sg else if w = 3 then brg kd sg else if w = 4 then pt else if w = 5 then (if f nm = 0 then 1 else 0) else if w = 6 then wor f else if w = 7 then pcs f else if 10 ≤ w ∧ w < 14 then f (w - 10) else -2
def vyR (w ns : Int) (nm : Int → Int) (V : Int × DS) : Int := if w = 1 then V.1 else if V.1 ≠ -9 then -100 - V.1 else if w = 0 then V.2.2.2.1 else if w = 2 then metN nm V.2.2.1 ns.toNat else if w = 3 then V.2.2.2.2.1 else if w = 4 then V.2.2.2.2.2 else if w - 10 < ns then wor (V.2.2.1 (w - 10)) else -9
/-- a name kept: kept pieces, port, days gone; t days more at most -/
def kpN (np : Int) (rg : Int → Int) (br p c d : Int) : Nat → Int
  | 0 => if c = 0 then d else -9
  | t + 1 => if c = 0 then d else kpN np rg br (nxp np p) (if br < rg p then c - 1 else c) (d + 1) t
def kpT (np : Int) (rg : Int → Int) (br p c : Int) : Int := kpN np rg br p c 0 30
/-- the best port from p on, t more; the best so far -/
def hbN (lo : Int → Int) (p b l : Int) : Nat → Int × Int
  | 0 => (b, l)
  | t + 1 => if lo p < l then hbN lo (p + 1) p (lo p) t else hbN lo (p + 1) b l t
def hbT (np w : Int) (lo : Int → Int) : Int := if w = 0 then (hbN lo 1 0 (lo 0) (np - 1).toNat).1 else (hbN lo 1 0 (lo 0) (np - 1).toNat).2
def swT (w : Int) (S : SS) : Int := match S with
  | none => 0
  | some q => if w = 0 then q.1 else if w = 1 then q.2.1 else dg q.2.2 (w - 10)
def coN (nm : Int → Int) (k cv ch : Int) : Nat → Int
  | 0 => ch
  | t + 1 => if iAnd cv (iShl 1 (nm k)) = 0 then coN nm (k + 1) (iOr cv (iShl 1 (nm k))) (iOr ch (iShl 1 k)) t else coN nm (k + 1) cv ch t
/-- the set of those v, v + 1, .. of which P is so -/
noncomputable def orN (P : Int → Prop) (v w : Int) : Nat → Int
  | 0 => w
  | t + 1 => @ite Int (P v) (Classical.propDecidable _) (orN P (v + 1) (iOr w (iShl 1 v)) t) (orN P (v + 1) w t)
def nmP (F : Int → Int) (i : Int) (L : Int → Int) : Prop := F (i + 0) = L 0 ∧ F (i + 1) = L 1 ∧ F (i + 2) = L 2 ∧ F (i + 3) = L 3
def shT (u l w : Int) : Int := (if w = 0 then u else l) / cdN u l l.toNat
def mnT (w ns np day nr m : Int) : Int := if w = 0 then ns else if w = 1 then np else if w = 2 then day else if w = 3 then bcI m else if w = 4 then nr else -2
theorem or_t {P : Int → Prop} {v w : Int} {t : Nat} (h : P v) : orN P v w (t + 1) = orN P (v + 1) (iOr w (iShl 1 v)) t := @if_pos _ (Classical.propDecidable _) h _ _ _
theorem or_f {P : Int → Prop} {v w : Int} {t : Nat} (h : ¬ P v) : orN P v w (t + 1) = orN P (v + 1) w t := @if_neg _ (Classical.propDecidable _) h _ _ _

set_option maxHeartbeats 4000000 in
set_option maxRecDepth 100000 in
theorem q_X4_ofShip {K : KX} {d : Nat} {μ : Int → ME} {k w : Int} {np ns day nr tr fl : Int} {rg kd nm sg pt : Int → Int} {ca : Int → Int → Int} {rs rp rl th la ln : Int → Int} {ce : Int → Int → Int} (hV : CV np ns day nr tr fl rg kd nm sg pt ca rs rp rl th la ln ce μ) (hW : WF np ns day nr tr fl rg kd nm sg pt ca rs rp rl th la ln ce) (hw : rng w) : Ct K (d + 3) yX4_ofShip cX4_ofShip 4 (some .int) [vR 0, vI k, vI w] μ (fun r μ' => (∀ a, 42 ≤ a → μ' a = μ a) ∧ (if ¬ (0 ≤ k ∧ k < ns) then r = some (vI (-1)) ∧ CV np ns day nr tr fl rg kd nm sg pt ca rs rp rl th la ln ce μ' else r = some (vI (ofS (kd k) (nm k) (sg k) (pt k) (ca k) w)) ∧ CV np ns day nr tr fl rg kd nm sg pt ca rs rp rl th la ln ce μ')) := by
  refine Ct.of (by decide) (Nat.le_of_ble_eq_true rfl) (fun X C => ?_)
  obtain ⟨⟨a0, a1, a2, a3⟩, ⟨b4, b5, b6, b7, b8, b9⟩, ⟨c0, c1, c2, c3⟩, dd, ee, ff⟩ := id hV
  obtain ⟨w0, w1, w2, w3, w4, w5, w6⟩ := id hW
  have hlo := iwr_lo hw
  refine p_aload_n (pc := 0) C dX4_ofShip_0 rfl ?_
  refine p_iload_n (pc := 1) C dX4_ofShip_1 rfl ?_
  refine p_callVF (pc := 2) C ln_X4_89 dX4_ofShip_2 (k_X4_isShip (by (repeat refine mg_n (by omega) ?_); first | assumption | exact mup_s _ _ _)) ⟨by omega, by omega⟩ (by (repeat refine mg_n (by omega) ?_); first | assumption | exact mup_s _ _ _) rfl rfl rfl rfl (Nat.le_of_ble_eq_true rfl) ?_
  refine p_ifne_b (pc := 5) (tgt := 10) C dX4_ofShip_5 (by decide) (fun c_5 => ?_) (fun c_5 => ?_)
  · refine p_aload_n (pc := 10) C dX4_ofShip_10 rfl ?_
    refine p_get (pc := 11) C fl_X4_17 dX4_ofShip_11 ⟨by omega, by omega⟩ (by (repeat refine mg_n (by omega) ?_); first | assumption | exact mup_s _ _ _) (by rfl) ?_
    refine p_iload_n (pc := 14) C dX4_ofShip_14 rfl ?_
    refine p_aald (pc := 15) C dX4_ofShip_15 ⟨by omega, by omega⟩ (by (repeat refine mg_n (by omega) ?_); first | assumption | exact mup_s _ _ _) (by decide) (by omega) (by rfl) ?_
    refine p_astore_n (pc := 16) (ls' := [(3, _), (0, _), (1, _), (2, _)]) C dX4_ofShip_16 (by decide) rfl ?_
    obtain ⟨s1, s2⟩ := dd k (by omega) (by omega)
    obtain ⟨n1, n2, n3⟩ := w3 k (by omega) (by omega)
    obtain ⟨x1, x2⟩ := w4 k (by omega) (by omega)
    refine p_iload_n (pc := 17) C dX4_ofShip_17 rfl ?_
    by_cases s_18_0 : w = 0
    · refine p_tin (pc := 18) (off := 46) (tgt := 64) C dX4_ofShip_18 (by omega) (by omega) (by rw [s_18_0]; rfl) (by decide) ?_
      refine p_aload_n (pc := 64) C dX4_ofShip_64 rfl ?_
      refine p_get (pc := 65) C fl_X4_92 dX4_ofShip_65 ⟨by omega, by omega⟩ (by (repeat refine mg_n (by omega) ?_); first | assumption | exact mup_s _ _ _) (by rfl) ?_
      refine p_iret (pc := 68) C dX4_ofShip_68 ?_
      first
        | (refine ⟨fun q hq => by (repeat (refine mg_n (by omega) ?_)); rfl, ?_⟩; rw [if_pos (by omega)]; exact ⟨rfl, hV⟩)
        | (refine ⟨fun q hq => by (repeat (refine mg_n (by omega) ?_)); rfl, ?_⟩; rw [if_neg (by omega)]; exact ⟨(by first | exact sv (by unfold ofS; rw [if_neg (by omega), if_neg (by omega), if_neg (by omega), if_neg (by omega), if_neg (by omega), if_pos (by omega)]; first | rw [if_pos c_93] | rw [if_neg c_93]) | exact sv (by unfold ofS; first | rw [if_pos (by omega)] | rw [if_neg (by omega), if_pos (by omega)] | rw [if_neg (by omega), if_neg (by omega), if_pos (by omega)] | rw [if_neg (by omega), if_neg (by omega), if_neg (by omega), if_pos (by omega)] | rw [if_neg (by omega), if_neg (by omega), if_neg (by omega), if_neg (by omega), if_pos (by omega)] | rw [if_neg (by omega), if_neg (by omega), if_neg (by omega), if_neg (by omega), if_neg (by omega), if_pos (by omega)] | rw [if_neg (by omega), if_neg (by omega), if_neg (by omega), if_neg (by omega), if_neg (by omega), if_neg (by omega), if_pos (by omega)] | rw [if_neg (by omega), if_neg (by omega), if_neg (by omega), if_neg (by omega), if_neg (by omega), if_neg (by omega), if_neg (by omega), if_pos (by omega)] | rw [if_neg (by omega), if_neg (by omega), if_neg (by omega), if_neg (by omega), if_neg (by omega), if_neg (by omega), if_neg (by omega), if_neg (by omega), if_pos (by omega)] | rw [if_neg (by omega), if_neg (by omega), if_neg (by omega), if_neg (by omega), if_neg (by omega), if_neg (by omega), if_neg (by omega), if_neg (by omega), if_neg (by omega)])), hV⟩)
    by_cases s_18_1 : w = 1
    · refine p_tin (pc := 18) (off := 51) (tgt := 69) C dX4_ofShip_18 (by omega) (by omega) (by rw [s_18_1]; rfl) (by decide) ?_
      refine p_aload_n (pc := 69) C dX4_ofShip_69 rfl ?_
      refine p_get (pc := 70) C fl_X4_95 dX4_ofShip_70 ⟨by omega, by omega⟩ (by (repeat refine mg_n (by omega) ?_); first | assumption | exact mup_s _ _ _) (by rfl) ?_
      refine p_iret (pc := 73) C dX4_ofShip_73 ?_
      first
        | (refine ⟨fun q hq => by (repeat (refine mg_n (by omega) ?_)); rfl, ?_⟩; rw [if_pos (by omega)]; exact ⟨rfl, hV⟩)
        | (refine ⟨fun q hq => by (repeat (refine mg_n (by omega) ?_)); rfl, ?_⟩; rw [if_neg (by omega)]; exact ⟨(by first | exact sv (by unfold ofS; rw [if_neg (by omega), if_neg (by omega), if_neg (by omega), if_neg (by omega), if_neg (by omega), if_pos (by omega)]; first | rw [if_pos c_93] | rw [if_neg c_93]) | exact sv (by unfold ofS; first | rw [if_pos (by omega)] | rw [if_neg (by omega), if_pos (by omega)] | rw [if_neg (by omega), if_neg (by omega), if_pos (by omega)] | rw [if_neg (by omega), if_neg (by omega), if_neg (by omega), if_pos (by omega)] | rw [if_neg (by omega), if_neg (by omega), if_neg (by omega), if_neg (by omega), if_pos (by omega)] | rw [if_neg (by omega), if_neg (by omega), if_neg (by omega), if_neg (by omega), if_neg (by omega), if_pos (by omega)] | rw [if_neg (by omega), if_neg (by omega), if_neg (by omega), if_neg (by omega), if_neg (by omega), if_neg (by omega), if_pos (by omega)] | rw [if_neg (by omega), if_neg (by omega), if_neg (by omega), if_neg (by omega), if_neg (by omega), if_neg (by omega), if_neg (by omega), if_pos (by omega)] | rw [if_neg (by omega), if_neg (by omega), if_neg (by omega), if_neg (by omega), if_neg (by omega), if_neg (by omega), if_neg (by omega), if_neg (by omega), if_pos (by omega)] | rw [if_neg (by omega), if_neg (by omega), if_neg (by omega), if_neg (by omega), if_neg (by omega), if_neg (by omega), if_neg (by omega), if_neg (by omega), if_neg (by omega)])), hV⟩)
    by_cases s_18_2 : w = 2
    · refine p_tin (pc := 18) (off := 56) (tgt := 74) C dX4_ofShip_18 (by omega) (by omega) (by rw [s_18_2]; rfl) (by decide) ?_
      refine p_aload_n (pc := 74) C dX4_ofShip_74 rfl ?_
      refine p_get (pc := 75) C fl_X4_98 dX4_ofShip_75 ⟨by omega, by omega⟩ (by (repeat refine mg_n (by omega) ?_); first | assumption | exact mup_s _ _ _) (by rfl) ?_
      refine p_iret (pc := 78) C dX4_ofShip_78 ?_
      first
        | (refine ⟨fun q hq => by (repeat (refine mg_n (by omega) ?_)); rfl, ?_⟩; rw [if_pos (by omega)]; exact ⟨rfl, hV⟩)
        | (refine ⟨fun q hq => by (repeat (refine mg_n (by omega) ?_)); rfl, ?_⟩; rw [if_neg (by omega)]; exact ⟨(by first | exact sv (by unfold ofS; rw [if_neg (by omega), if_neg (by omega), if_neg (by omega), if_neg (by omega), if_neg (by omega), if_pos (by omega)]; first | rw [if_pos c_93] | rw [if_neg c_93]) | exact sv (by unfold ofS; first | rw [if_pos (by omega)] | rw [if_neg (by omega), if_pos (by omega)] | rw [if_neg (by omega), if_neg (by omega), if_pos (by omega)] | rw [if_neg (by omega), if_neg (by omega), if_neg (by omega), if_pos (by omega)] | rw [if_neg (by omega), if_neg (by omega), if_neg (by omega), if_neg (by omega), if_pos (by omega)] | rw [if_neg (by omega), if_neg (by omega), if_neg (by omega), if_neg (by omega), if_neg (by omega), if_pos (by omega)] | rw [if_neg (by omega), if_neg (by omega), if_neg (by omega), if_neg (by omega), if_neg (by omega), if_neg (by omega), if_pos (by omega)] | rw [if_neg (by omega), if_neg (by omega), if_neg (by omega), if_neg (by omega), if_neg (by omega), if_neg (by omega), if_neg (by omega), if_pos (by omega)] | rw [if_neg (by omega), if_neg (by omega), if_neg (by omega), if_neg (by omega), if_neg (by omega), if_neg (by omega), if_neg (by omega), if_neg (by omega), if_pos (by omega)] | rw [if_neg (by omega), if_neg (by omega), if_neg (by omega), if_neg (by omega), if_neg (by omega), if_neg (by omega), if_neg (by omega), if_neg (by omega), if_neg (by omega)])), hV⟩)
    by_cases s_18_3 : w = 3
    · refine p_tin (pc := 18) (off := 61) (tgt := 79) C dX4_ofShip_18 (by omega) (by omega) (by rw [s_18_3]; rfl) (by decide) ?_
      refine p_aload_n (pc := 79) C dX4_ofShip_79 rfl ?_
      refine p_callVF (pc := 80) C ln_X4_101 dX4_ofShip_80 (k_X1_bearing ⟨by omega, by omega⟩ s1 (by omega)) ⟨by omega, by omega⟩ (by (repeat refine mg_n (by omega) ?_); first | assumption | exact mup_s _ _ _) rfl rfl rfl rfl (Nat.le_of_ble_eq_true rfl) ?_
      refine p_iret (pc := 83) C dX4_ofShip_83 ?_
      first
        | (refine ⟨fun q hq => by (repeat (refine mg_n (by omega) ?_)); rfl, ?_⟩; rw [if_pos (by omega)]; exact ⟨rfl, hV⟩)
        | (refine ⟨fun q hq => by (repeat (refine mg_n (by omega) ?_)); rfl, ?_⟩; rw [if_neg (by omega)]; exact ⟨(by first | exact sv (by unfold ofS; rw [if_neg (by omega), if_neg (by omega), if_neg (by omega), if_neg (by omega), if_neg (by omega), if_pos (by omega)]; first | rw [if_pos c_93] | rw [if_neg c_93]) | exact sv (by unfold ofS; first | rw [if_pos (by omega)] | rw [if_neg (by omega), if_pos (by omega)] | rw [if_neg (by omega), if_neg (by omega), if_pos (by omega)] | rw [if_neg (by omega), if_neg (by omega), if_neg (by omega), if_pos (by omega)] | rw [if_neg (by omega), if_neg (by omega), if_neg (by omega), if_neg (by omega), if_pos (by omega)] | rw [if_neg (by omega), if_neg (by omega), if_neg (by omega), if_neg (by omega), if_neg (by omega), if_pos (by omega)] | rw [if_neg (by omega), if_neg (by omega), if_neg (by omega), if_neg (by omega), if_neg (by omega), if_neg (by omega), if_pos (by omega)] | rw [if_neg (by omega), if_neg (by omega), if_neg (by omega), if_neg (by omega), if_neg (by omega), if_neg (by omega), if_neg (by omega), if_pos (by omega)] | rw [if_neg (by omega), if_neg (by omega), if_neg (by omega), if_neg (by omega), if_neg (by omega), if_neg (by omega), if_neg (by omega), if_neg (by omega), if_pos (by omega)] | rw [if_neg (by omega), if_neg (by omega), if_neg (by omega), if_neg (by omega), if_neg (by omega), if_neg (by omega), if_neg (by omega), if_neg (by omega), if_neg (by omega)])), hV⟩)
    by_cases s_18_4 : w = 4
    · refine p_tin (pc := 18) (off := 66) (tgt := 84) C dX4_ofShip_18 (by omega) (by omega) (by rw [s_18_4]; rfl) (by decide) ?_
      refine p_aload_n (pc := 84) C dX4_ofShip_84 rfl ?_
      refine p_get (pc := 85) C fl_X4_105 dX4_ofShip_85 ⟨by omega, by omega⟩ (by (repeat refine mg_n (by omega) ?_); first | assumption | exact mup_s _ _ _) (by rfl) ?_
      refine p_iret (pc := 88) C dX4_ofShip_88 ?_
      first
        | (refine ⟨fun q hq => by (repeat (refine mg_n (by omega) ?_)); rfl, ?_⟩; rw [if_pos (by omega)]; exact ⟨rfl, hV⟩)
        | (refine ⟨fun q hq => by (repeat (refine mg_n (by omega) ?_)); rfl, ?_⟩; rw [if_neg (by omega)]; exact ⟨(by first | exact sv (by unfold ofS; rw [if_neg (by omega), if_neg (by omega), if_neg (by omega), if_neg (by omega), if_neg (by omega), if_pos (by omega)]; first | rw [if_pos c_93] | rw [if_neg c_93]) | exact sv (by unfold ofS; first | rw [if_pos (by omega)] | rw [if_neg (by omega), if_pos (by omega)] | rw [if_neg (by omega), if_neg (by omega), if_pos (by omega)] | rw [if_neg (by omega), if_neg (by omega), if_neg (by omega), if_pos (by omega)] | rw [if_neg (by omega), if_neg (by omega), if_neg (by omega), if_neg (by omega), if_pos (by omega)] | rw [if_neg (by omega), if_neg (by omega), if_neg (by omega), if_neg (by omega), if_neg (by omega), if_pos (by omega)] | rw [if_neg (by omega), if_neg (by omega), if_neg (by omega), if_neg (by omega), if_neg (by omega), if_neg (by omega), if_pos (by omega)] | rw [if_neg (by omega), if_neg (by omega), if_neg (by omega), if_neg (by omega), if_neg (by omega), if_neg (by omega), if_neg (by omega), if_pos (by omega)] | rw [if_neg (by omega), if_neg (by omega), if_neg (by omega), if_neg (by omega), if_neg (by omega), if_neg (by omega), if_neg (by omega), if_neg (by omega), if_pos (by omega)] | rw [if_neg (by omega), if_neg (by omega), if_neg (by omega), if_neg (by omega), if_neg (by omega), if_neg (by omega), if_neg (by omega), if_neg (by omega), if_neg (by omega)])), hV⟩)
    by_cases s_18_5 : w = 5
    · refine p_tin (pc := 18) (off := 71) (tgt := 89) C dX4_ofShip_18 (by omega) (by omega) (by rw [s_18_5]; rfl) (by decide) ?_
      refine p_aload_n (pc := 89) C dX4_ofShip_89 rfl ?_
      refine p_callVF (pc := 90) C ln_X4_108 dX4_ofShip_90 (k_X1_isMet ⟨by omega, by omega⟩ s1 ⟨by omega, by omega⟩ s2 n2) ⟨by omega, by omega⟩ (by (repeat refine mg_n (by omega) ?_); first | assumption | exact mup_s _ _ _) rfl rfl rfl rfl (Nat.le_of_ble_eq_true rfl) ?_
      refine p_ifeq_b (pc := 93) (tgt := 100) C dX4_ofShip_93 (by decide) (fun c_93 => ?_) (fun c_93 => ?_)
      · refine p_iconst (pc := 100) C dX4_ofShip_100 (by decide) ?_
        refine p_iret (pc := 101) C dX4_ofShip_101 ?_
        first
          | (refine ⟨fun q hq => by (repeat (refine mg_n (by omega) ?_)); rfl, ?_⟩; rw [if_pos (by omega)]; exact ⟨rfl, hV⟩)
          | (refine ⟨fun q hq => by (repeat (refine mg_n (by omega) ?_)); rfl, ?_⟩; rw [if_neg (by omega)]; exact ⟨(by first | exact sv (by unfold ofS; rw [if_neg (by omega), if_neg (by omega), if_neg (by omega), if_neg (by omega), if_neg (by omega), if_pos (by omega)]; first | rw [if_pos c_93] | rw [if_neg c_93]) | exact sv (by unfold ofS; first | rw [if_pos (by omega)] | rw [if_neg (by omega), if_pos (by omega)] | rw [if_neg (by omega), if_neg (by omega), if_pos (by omega)] | rw [if_neg (by omega), if_neg (by omega), if_neg (by omega), if_pos (by omega)] | rw [if_neg (by omega), if_neg (by omega), if_neg (by omega), if_neg (by omega), if_pos (by omega)] | rw [if_neg (by omega), if_neg (by omega), if_neg (by omega), if_neg (by omega), if_neg (by omega), if_pos (by omega)] | rw [if_neg (by omega), if_neg (by omega), if_neg (by omega), if_neg (by omega), if_neg (by omega), if_neg (by omega), if_pos (by omega)] | rw [if_neg (by omega), if_neg (by omega), if_neg (by omega), if_neg (by omega), if_neg (by omega), if_neg (by omega), if_neg (by omega), if_pos (by omega)] | rw [if_neg (by omega), if_neg (by omega), if_neg (by omega), if_neg (by omega), if_neg (by omega), if_neg (by omega), if_neg (by omega), if_neg (by omega), if_pos (by omega)] | rw [if_neg (by omega), if_neg (by omega), if_neg (by omega), if_neg (by omega), if_neg (by omega), if_neg (by omega), if_neg (by omega), if_neg (by omega), if_neg (by omega)])), hV⟩)
      · refine p_iconst (pc := 96) C dX4_ofShip_96 (by decide) ?_
        refine p_goto (pc := 97) (tgt := 101) C dX4_ofShip_97 (by decide) ?_
        refine p_iret (pc := 101) C dX4_ofShip_101 ?_
        first
          | (refine ⟨fun q hq => by (repeat (refine mg_n (by omega) ?_)); rfl, ?_⟩; rw [if_pos (by omega)]; exact ⟨rfl, hV⟩)
          | (refine ⟨fun q hq => by (repeat (refine mg_n (by omega) ?_)); rfl, ?_⟩; rw [if_neg (by omega)]; exact ⟨(by first | exact sv (by unfold ofS; rw [if_neg (by omega), if_neg (by omega), if_neg (by omega), if_neg (by omega), if_neg (by omega), if_pos (by omega)]; first | rw [if_pos c_93] | rw [if_neg c_93]) | exact sv (by unfold ofS; first | rw [if_pos (by omega)] | rw [if_neg (by omega), if_pos (by omega)] | rw [if_neg (by omega), if_neg (by omega), if_pos (by omega)] | rw [if_neg (by omega), if_neg (by omega), if_neg (by omega), if_pos (by omega)] | rw [if_neg (by omega), if_neg (by omega), if_neg (by omega), if_neg (by omega), if_pos (by omega)] | rw [if_neg (by omega), if_neg (by omega), if_neg (by omega), if_neg (by omega), if_neg (by omega), if_pos (by omega)] | rw [if_neg (by omega), if_neg (by omega), if_neg (by omega), if_neg (by omega), if_neg (by omega), if_neg (by omega), if_pos (by omega)] | rw [if_neg (by omega), if_neg (by omega), if_neg (by omega), if_neg (by omega), if_neg (by omega), if_neg (by omega), if_neg (by omega), if_pos (by omega)] | rw [if_neg (by omega), if_neg (by omega), if_neg (by omega), if_neg (by omega), if_neg (by omega), if_neg (by omega), if_neg (by omega), if_neg (by omega), if_pos (by omega)] | rw [if_neg (by omega), if_neg (by omega), if_neg (by omega), if_neg (by omega), if_neg (by omega), if_neg (by omega), if_neg (by omega), if_neg (by omega), if_neg (by omega)])), hV⟩)
    by_cases s_18_6 : w = 6
    · refine p_tin (pc := 18) (off := 84) (tgt := 102) C dX4_ofShip_18 (by omega) (by omega) (by rw [s_18_6]; rfl) (by decide) ?_
      refine p_aload_n (pc := 102) C dX4_ofShip_102 rfl ?_
      refine p_callVF (pc := 103) C ln_X4_112 dX4_ofShip_103 (k_X1_worth ⟨by omega, by omega⟩ s1 ⟨by omega, by omega⟩ s2 (x2.le (by omega))) ⟨by omega, by omega⟩ (by (repeat refine mg_n (by omega) ?_); first | assumption | exact mup_s _ _ _) rfl rfl rfl rfl (Nat.le_of_ble_eq_true rfl) ?_
      refine p_iret (pc := 106) C dX4_ofShip_106 ?_
      first
        | (refine ⟨fun q hq => by (repeat (refine mg_n (by omega) ?_)); rfl, ?_⟩; rw [if_pos (by omega)]; exact ⟨rfl, hV⟩)
        | (refine ⟨fun q hq => by (repeat (refine mg_n (by omega) ?_)); rfl, ?_⟩; rw [if_neg (by omega)]; exact ⟨(by first | exact sv (by unfold ofS; rw [if_neg (by omega), if_neg (by omega), if_neg (by omega), if_neg (by omega), if_neg (by omega), if_pos (by omega)]; first | rw [if_pos c_93] | rw [if_neg c_93]) | exact sv (by unfold ofS; first | rw [if_pos (by omega)] | rw [if_neg (by omega), if_pos (by omega)] | rw [if_neg (by omega), if_neg (by omega), if_pos (by omega)] | rw [if_neg (by omega), if_neg (by omega), if_neg (by omega), if_pos (by omega)] | rw [if_neg (by omega), if_neg (by omega), if_neg (by omega), if_neg (by omega), if_pos (by omega)] | rw [if_neg (by omega), if_neg (by omega), if_neg (by omega), if_neg (by omega), if_neg (by omega), if_pos (by omega)] | rw [if_neg (by omega), if_neg (by omega), if_neg (by omega), if_neg (by omega), if_neg (by omega), if_neg (by omega), if_pos (by omega)] | rw [if_neg (by omega), if_neg (by omega), if_neg (by omega), if_neg (by omega), if_neg (by omega), if_neg (by omega), if_neg (by omega), if_pos (by omega)] | rw [if_neg (by omega), if_neg (by omega), if_neg (by omega), if_neg (by omega), if_neg (by omega), if_neg (by omega), if_neg (by omega), if_neg (by omega), if_pos (by omega)] | rw [if_neg (by omega), if_neg (by omega), if_neg (by omega), if_neg (by omega), if_neg (by omega), if_neg (by omega), if_neg (by omega), if_neg (by omega), if_neg (by omega)])), hV⟩)
    by_cases s_18_7 : w = 7
    · refine p_tin (pc := 18) (off := 89) (tgt := 107) C dX4_ofShip_18 (by omega) (by omega) (by rw [s_18_7]; rfl) (by decide) ?_
      refine p_aload_n (pc := 107) C dX4_ofShip_107 rfl ?_
      refine p_callVF (pc := 108) C ln_X4_115 dX4_ofShip_108 (k_X1_pieces ⟨by omega, by omega⟩ s1 ⟨by omega, by omega⟩ s2 (x2.le (by omega))) ⟨by omega, by omega⟩ (by (repeat refine mg_n (by omega) ?_); first | assumption | exact mup_s _ _ _) rfl rfl rfl rfl (Nat.le_of_ble_eq_true rfl) ?_
      refine p_iret (pc := 111) C dX4_ofShip_111 ?_
      first
        | (refine ⟨fun q hq => by (repeat (refine mg_n (by omega) ?_)); rfl, ?_⟩; rw [if_pos (by omega)]; exact ⟨rfl, hV⟩)
        | (refine ⟨fun q hq => by (repeat (refine mg_n (by omega) ?_)); rfl, ?_⟩; rw [if_neg (by omega)]; exact ⟨(by first | exact sv (by unfold ofS; rw [if_neg (by omega), if_neg (by omega), if_neg (by omega), if_neg (by omega), if_neg (by omega), if_pos (by omega)]; first | rw [if_pos c_93] | rw [if_neg c_93]) | exact sv (by unfold ofS; first | rw [if_pos (by omega)] | rw [if_neg (by omega), if_pos (by omega)] | rw [if_neg (by omega), if_neg (by omega), if_pos (by omega)] | rw [if_neg (by omega), if_neg (by omega), if_neg (by omega), if_pos (by omega)] | rw [if_neg (by omega), if_neg (by omega), if_neg (by omega), if_neg (by omega), if_pos (by omega)] | rw [if_neg (by omega), if_neg (by omega), if_neg (by omega), if_neg (by omega), if_neg (by omega), if_pos (by omega)] | rw [if_neg (by omega), if_neg (by omega), if_neg (by omega), if_neg (by omega), if_neg (by omega), if_neg (by omega), if_pos (by omega)] | rw [if_neg (by omega), if_neg (by omega), if_neg (by omega), if_neg (by omega), if_neg (by omega), if_neg (by omega), if_neg (by omega), if_pos (by omega)] | rw [if_neg (by omega), if_neg (by omega), if_neg (by omega), if_neg (by omega), if_neg (by omega), if_neg (by omega), if_neg (by omega), if_neg (by omega), if_pos (by omega)] | rw [if_neg (by omega), if_neg (by omega), if_neg (by omega), if_neg (by omega), if_neg (by omega), if_neg (by omega), if_neg (by omega), if_neg (by omega), if_neg (by omega)])), hV⟩)
    refine p_tout (pc := 18) (tgt := 112) C dX4_ofShip_18 (by omega) (by decide) ?_
    refine p_iload_n (pc := 112) C dX4_ofShip_112 rfl ?_
    refine p_bipush (pc := 113) C dX4_ofShip_113 (by decide) ?_
    refine p_isubw (pc := 115) C dX4_ofShip_115 ?_
    refine p_callSF (pc := 116) C ln_X4_118 dX4_ofShip_116 (k_X4_isGood) rfl rfl (Nat.le_of_ble_eq_true rfl) ?_
    refine p_ifeq_b (pc := 119) (tgt := 134) C dX4_ofShip_119 (by decide) (fun c_119 => ?_) (fun c_119 => ?_)
    · refine p_bipush (pc := 134) C dX4_ofShip_134 (by decide) ?_
      refine p_iret (pc := 136) C dX4_ofShip_136 ?_
      first
        | (refine ⟨fun q hq => by (repeat (refine mg_n (by omega) ?_)); rfl, ?_⟩; rw [if_pos (by omega)]; exact ⟨rfl, hV⟩)
        | (refine ⟨fun q hq => by (repeat (refine mg_n (by omega) ?_)); rfl, ?_⟩; rw [if_neg (by omega)]; exact ⟨(by first | exact sv (by unfold ofS; rw [if_neg (by omega), if_neg (by omega), if_neg (by omega), if_neg (by omega), if_neg (by omega), if_pos (by omega)]; first | rw [if_pos c_93] | rw [if_neg c_93]) | exact sv (by unfold ofS; first | rw [if_pos (by omega)] | rw [if_neg (by omega), if_pos (by omega)] | rw [if_neg (by omega), if_neg (by omega), if_pos (by omega)] | rw [if_neg (by omega), if_neg (by omega), if_neg (by omega), if_pos (by omega)] | rw [if_neg (by omega), if_neg (by omega), if_neg (by omega), if_neg (by omega), if_pos (by omega)] | rw [if_neg (by omega), if_neg (by omega), if_neg (by omega), if_neg (by omega), if_neg (by omega), if_pos (by omega)] | rw [if_neg (by omega), if_neg (by omega), if_neg (by omega), if_neg (by omega), if_neg (by omega), if_neg (by omega), if_pos (by omega)] | rw [if_neg (by omega), if_neg (by omega), if_neg (by omega), if_neg (by omega), if_neg (by omega), if_neg (by omega), if_neg (by omega), if_pos (by omega)] | rw [if_neg (by omega), if_neg (by omega), if_neg (by omega), if_neg (by omega), if_neg (by omega), if_neg (by omega), if_neg (by omega), if_neg (by omega), if_pos (by omega)] | rw [if_neg (by omega), if_neg (by omega), if_neg (by omega), if_neg (by omega), if_neg (by omega), if_neg (by omega), if_neg (by omega), if_neg (by omega), if_neg (by omega)])), hV⟩)
    · refine p_aload_n (pc := 122) C dX4_ofShip_122 rfl ?_
      refine p_get (pc := 123) C fl_X4_121 dX4_ofShip_123 ⟨by omega, by omega⟩ (by (repeat refine mg_n (by omega) ?_); first | assumption | exact mup_s _ _ _) (by rfl) ?_
      refine p_iload_n (pc := 126) C dX4_ofShip_126 rfl ?_
      refine p_bipush (pc := 127) C dX4_ofShip_127 (by decide) ?_
      refine p_isub (pc := 129) C dX4_ofShip_129 ⟨by omega, by omega⟩ ?_
      refine p_iald (pc := 130) C dX4_ofShip_130 ⟨by omega, by omega⟩ (by (repeat refine mg_n (by omega) ?_); first | assumption | exact mup_s _ _ _) (by omega) ?_
      refine p_goto (pc := 131) (tgt := 136) C dX4_ofShip_131 (by decide) ?_
      refine p_iret (pc := 136) C dX4_ofShip_136 ?_
      first
        | (refine ⟨fun q hq => by (repeat (refine mg_n (by omega) ?_)); rfl, ?_⟩; rw [if_pos (by omega)]; exact ⟨rfl, hV⟩)
        | (refine ⟨fun q hq => by (repeat (refine mg_n (by omega) ?_)); rfl, ?_⟩; rw [if_neg (by omega)]; exact ⟨(by first | exact sv (by unfold ofS; rw [if_neg (by omega), if_neg (by omega), if_neg (by omega), if_neg (by omega), if_neg (by omega), if_pos (by omega)]; first | rw [if_pos c_93] | rw [if_neg c_93]) | exact sv (by unfold ofS; first | rw [if_pos (by omega)] | rw [if_neg (by omega), if_pos (by omega)] | rw [if_neg (by omega), if_neg (by omega), if_pos (by omega)] | rw [if_neg (by omega), if_neg (by omega), if_neg (by omega), if_pos (by omega)] | rw [if_neg (by omega), if_neg (by omega), if_neg (by omega), if_neg (by omega), if_pos (by omega)] | rw [if_neg (by omega), if_neg (by omega), if_neg (by omega), if_neg (by omega), if_neg (by omega), if_pos (by omega)] | rw [if_neg (by omega), if_neg (by omega), if_neg (by omega), if_neg (by omega), if_neg (by omega), if_neg (by omega), if_pos (by omega)] | rw [if_neg (by omega), if_neg (by omega), if_neg (by omega), if_neg (by omega), if_neg (by omega), if_neg (by omega), if_neg (by omega), if_pos (by omega)] | rw [if_neg (by omega), if_neg (by omega), if_neg (by omega), if_neg (by omega), if_neg (by omega), if_neg (by omega), if_neg (by omega), if_neg (by omega), if_pos (by omega)] | rw [if_neg (by omega), if_neg (by omega), if_neg (by omega), if_neg (by omega), if_neg (by omega), if_neg (by omega), if_neg (by omega), if_neg (by omega), if_neg (by omega)])), hV⟩)
  · refine p_iconst (pc := 8) C dX4_ofShip_8 (by decide) ?_
    refine p_iret (pc := 9) C dX4_ofShip_9 ?_
    first
      | (refine ⟨fun q hq => by (repeat (refine mg_n (by omega) ?_)); rfl, ?_⟩; rw [if_pos (by omega)]; exact ⟨rfl, hV⟩)
      | (refine ⟨fun q hq => by (repeat (refine mg_n (by omega) ?_)); rfl, ?_⟩; rw [if_neg (by omega)]; exact ⟨(by first | exact sv (by unfold ofS; rw [if_neg (by omega), if_neg (by omega), if_neg (by omega), if_neg (by omega), if_neg (by omega), if_pos (by omega)]; first | rw [if_pos c_93] | rw [if_neg c_93]) | exact sv (by unfold ofS; first | rw [if_pos (by omega)] | rw [if_neg (by omega), if_pos (by omega)] | rw [if_neg (by omega), if_neg (by omega), if_pos (by omega)] | rw [if_neg (by omega), if_neg (by omega), if_neg (by omega), if_pos (by omega)] | rw [if_neg (by omega), if_neg (by omega), if_neg (by omega), if_neg (by omega), if_pos (by omega)] | rw [if_neg (by omega), if_neg (by omega), if_neg (by omega), if_neg (by omega), if_neg (by omega), if_pos (by omega)] | rw [if_neg (by omega), if_neg (by omega), if_neg (by omega), if_neg (by omega), if_neg (by omega), if_neg (by omega), if_pos (by omega)] | rw [if_neg (by omega), if_neg (by omega), if_neg (by omega), if_neg (by omega), if_neg (by omega), if_neg (by omega), if_neg (by omega), if_pos (by omega)] | rw [if_neg (by omega), if_neg (by omega), if_neg (by omega), if_neg (by omega), if_neg (by omega), if_neg (by omega), if_neg (by omega), if_neg (by omega), if_pos (by omega)] | rw [if_neg (by omega), if_neg (by omega), if_neg (by omega), if_neg (by omega), if_neg (by omega), if_neg (by omega), if_neg (by omega), if_neg (by omega), if_neg (by omega)])), hV⟩)

set_option maxHeartbeats 4000000 in
set_option maxRecDepth 100000 in
theorem q_X4_rough {K : KX} {d : Nat} {μ : Int → ME} {p : Int} {np ns day nr tr fl : Int} {rg kd nm sg pt : Int → Int} {ca : Int → Int → Int} {rs rp rl th la ln : Int → Int} {ce : Int → Int → Int} (hV : CV np ns day nr tr fl rg kd nm sg pt ca rs rp rl th la ln ce μ) (hW : WF np ns day nr tr fl rg kd nm sg pt ca rs rp rl th la ln ce) : Ct K (d + 2) yX4_rough cX4_rough 2 (some .int) [vR 0, vI p] μ (fun r μ' => (∀ a, 42 ≤ a → μ' a = μ a) ∧ (if ¬ (0 ≤ p ∧ p < np) then r = some (vI (-1)) ∧ CV np ns day nr tr fl rg kd nm sg pt ca rs rp rl th la ln ce μ' else r = some (vI (rg p)) ∧ CV np ns day nr tr fl rg kd nm sg pt ca rs rp rl th la ln ce μ')) := by
  refine Ct.of (by decide) (Nat.le_of_ble_eq_true rfl) (fun X C => ?_)
  obtain ⟨⟨a0, a1, a2, a3⟩, ⟨b4, b5, b6, b7, b8, b9⟩, ⟨c0, c1, c2, c3⟩, dd, ee, ff⟩ := id hV
  obtain ⟨w0, w1, w2, w3, w4, w5, w6⟩ := id hW
  refine p_aload_n (pc := 0) C dX4_rough_0 rfl ?_
  refine p_iload_n (pc := 1) C dX4_rough_1 rfl ?_
  refine p_callVF (pc := 2) C ln_X4_124 dX4_rough_2 (k_X4_isPort a0) ⟨by omega, by omega⟩ (by (repeat refine mg_n (by omega) ?_); first | assumption | exact mup_s _ _ _) rfl rfl rfl rfl (Nat.le_of_ble_eq_true rfl) ?_
  refine p_ifeq_b (pc := 5) (tgt := 17) C dX4_rough_5 (by decide) (fun c_5 => ?_) (fun c_5 => ?_)
  · refine p_iconst (pc := 17) C dX4_rough_17 (by decide) ?_
    refine p_iret (pc := 18) C dX4_rough_18 ?_
    first
      | (refine ⟨fun q hq => by (repeat (refine mg_n (by omega) ?_)); rfl, ?_⟩; rw [if_pos (by omega)]; exact ⟨rfl, hV⟩)
      | (refine ⟨fun q hq => by (repeat (refine mg_n (by omega) ?_)); rfl, ?_⟩; rw [if_neg (by omega)]; exact ⟨rfl, hV⟩)
  · refine p_aload_n (pc := 8) C dX4_rough_8 rfl ?_
    refine p_get (pc := 9) C fl_X4_11 dX4_rough_9 ⟨by omega, by omega⟩ (by (repeat refine mg_n (by omega) ?_); first | assumption | exact mup_s _ _ _) (by rfl) ?_
    refine p_iload_n (pc := 12) C dX4_rough_12 rfl ?_
    refine p_iald (pc := 13) C dX4_rough_13 ⟨by omega, by omega⟩ (by (repeat refine mg_n (by omega) ?_); first | assumption | exact mup_s _ _ _) (by omega) ?_
    refine p_goto (pc := 14) (tgt := 18) C dX4_rough_14 (by decide) ?_
    refine p_iret (pc := 18) C dX4_rough_18 ?_
    first
      | (refine ⟨fun q hq => by (repeat (refine mg_n (by omega) ?_)); rfl, ?_⟩; rw [if_pos (by omega)]; exact ⟨rfl, hV⟩)
      | (refine ⟨fun q hq => by (repeat (refine mg_n (by omega) ?_)); rfl, ?_⟩; rw [if_neg (by omega)]; exact ⟨rfl, hV⟩)

set_option maxHeartbeats 4000000 in
set_option maxRecDepth 100000 in
theorem q_X4_blow {K : KX} {d : Nat} {μ : Int → ME} {p v : Int} {np ns day nr tr fl : Int} {rg kd nm sg pt : Int → Int} {ca : Int → Int → Int} {rs rp rl th la ln : Int → Int} {ce : Int → Int → Int} (hV : CV np ns day nr tr fl rg kd nm sg pt ca rs rp rl th la ln ce μ) (hW : WF np ns day nr tr fl rg kd nm sg pt ca rs rp rl th la ln ce) : Ct K (d + 2) yX4_blow cX4_blow 4 (some .int) [vR 0, vI p, vI v] μ (fun r μ' => (∀ a, 42 ≤ a → μ' a = μ a) ∧ (if ¬ (0 ≤ p ∧ p < np) then r = some (vI (-1)) ∧ CV np ns day nr tr fl rg kd nm sg pt ca rs rp rl th la ln ce μ' else if ¬ (0 ≤ v ∧ v ≤ 9) then r = some (vI (-2)) ∧ CV np ns day nr tr fl rg kd nm sg pt ca rs rp rl th la ln ce μ' else r = some (vI (rg p)) ∧ CV np ns day nr tr fl (fup rg p v) kd nm sg pt ca rs rp rl th la ln ce μ')) := by
  refine Ct.of (by decide) (Nat.le_of_ble_eq_true rfl) (fun X C => ?_)
  obtain ⟨⟨a0, a1, a2, a3⟩, ⟨b4, b5, b6, b7, b8, b9⟩, ⟨c0, c1, c2, c3⟩, dd, ee, ff⟩ := id hV
  obtain ⟨w0, w1, w2, w3, w4, w5, w6⟩ := id hW
  refine p_aload_n (pc := 0) C dX4_blow_0 rfl ?_
  refine p_iload_n (pc := 1) C dX4_blow_1 rfl ?_
  refine p_callVF (pc := 2) C ln_X4_124 dX4_blow_2 (k_X4_isPort a0) ⟨by omega, by omega⟩ (by (repeat refine mg_n (by omega) ?_); first | assumption | exact mup_s _ _ _) rfl rfl rfl rfl (Nat.le_of_ble_eq_true rfl) ?_
  refine p_ifne_b (pc := 5) (tgt := 10) C dX4_blow_5 (by decide) (fun c_5 => ?_) (fun c_5 => ?_)
  · refine p_iload_n (pc := 10) C dX4_blow_10 rfl ?_
    refine p_bipush (pc := 11) C dX4_blow_11 (by decide) ?_
    refine p_callSF (pc := 13) C ln_X4_127 dX4_blow_13 (k_X4_isUpTo) rfl rfl (Nat.le_of_ble_eq_true rfl) ?_
    refine p_ifne_b (pc := 16) (tgt := 22) C dX4_blow_16 (by decide) (fun c_16 => ?_) (fun c_16 => ?_)
    · refine p_aload_n (pc := 22) C dX4_blow_22 rfl ?_
      refine p_get (pc := 23) C fl_X4_11 dX4_blow_23 ⟨by omega, by omega⟩ (by (repeat refine mg_n (by omega) ?_); first | assumption | exact mup_s _ _ _) (by rfl) ?_
      refine p_iload_n (pc := 26) C dX4_blow_26 rfl ?_
      refine p_iald (pc := 27) C dX4_blow_27 ⟨by omega, by omega⟩ (by (repeat refine mg_n (by omega) ?_); first | assumption | exact mup_s _ _ _) (by omega) ?_
      refine p_istore_n (pc := 28) (ls' := [(3, _), (0, _), (1, _), (2, _)]) C dX4_blow_28 (by decide) rfl ?_
      refine p_aload_n (pc := 29) C dX4_blow_29 rfl ?_
      refine p_get (pc := 30) C fl_X4_11 dX4_blow_30 ⟨by omega, by omega⟩ (by (repeat refine mg_n (by omega) ?_); first | assumption | exact mup_s _ _ _) (by rfl) ?_
      refine p_iload_n (pc := 33) C dX4_blow_33 rfl ?_
      refine p_iload_n (pc := 34) C dX4_blow_34 rfl ?_
      refine p_iast (pc := 35) C dX4_blow_35 ⟨by omega, by omega⟩ (by (repeat refine mg_n (by omega) ?_); first | assumption | exact mup_s _ _ _) (by omega) ?_
      try refine p_mem (mup_mup _ _ _ _) ?_
      refine p_iload_n (pc := 36) C dX4_blow_36 rfl ?_
      refine p_iret (pc := 37) C dX4_blow_37 ?_
      first
        | (refine ⟨fun q hq => by (repeat (refine mg_n (by omega) ?_)); rfl, ?_⟩; rw [if_pos (by omega)]; exact ⟨rfl, hV⟩)
        | (refine ⟨fun q hq => by (repeat (refine mg_n (by omega) ?_)); rfl, ?_⟩; rw [if_neg (by omega), if_pos (by omega)]; exact ⟨rfl, hV⟩)
        | (refine ⟨fun q hq => by (repeat (refine mg_n (by omega) ?_)); rfl, ?_⟩; rw [if_neg (by omega), if_neg (by omega)]; exact ⟨rfl, CV_1 hV⟩)
    · refine p_bipush (pc := 19) C dX4_blow_19 (by decide) ?_
      refine p_iret (pc := 21) C dX4_blow_21 ?_
      first
        | (refine ⟨fun q hq => by (repeat (refine mg_n (by omega) ?_)); rfl, ?_⟩; rw [if_pos (by omega)]; exact ⟨rfl, hV⟩)
        | (refine ⟨fun q hq => by (repeat (refine mg_n (by omega) ?_)); rfl, ?_⟩; rw [if_neg (by omega), if_pos (by omega)]; exact ⟨rfl, hV⟩)
        | (refine ⟨fun q hq => by (repeat (refine mg_n (by omega) ?_)); rfl, ?_⟩; rw [if_neg (by omega), if_neg (by omega)]; exact ⟨rfl, CV_1 hV⟩)
  · refine p_iconst (pc := 8) C dX4_blow_8 (by decide) ?_
    refine p_iret (pc := 9) C dX4_blow_9 ?_
    first
      | (refine ⟨fun q hq => by (repeat (refine mg_n (by omega) ?_)); rfl, ?_⟩; rw [if_pos (by omega)]; exact ⟨rfl, hV⟩)
      | (refine ⟨fun q hq => by (repeat (refine mg_n (by omega) ?_)); rfl, ?_⟩; rw [if_neg (by omega), if_pos (by omega)]; exact ⟨rfl, hV⟩)
      | (refine ⟨fun q hq => by (repeat (refine mg_n (by omega) ?_)); rfl, ?_⟩; rw [if_neg (by omega), if_neg (by omega)]; exact ⟨rfl, CV_1 hV⟩)

set_option maxHeartbeats 4000000 in
set_option maxRecDepth 100000 in
theorem q_X4_name {K : KX} {d : Nat} {μ : Int → ME} {k g : Int} {np ns day nr tr fl : Int} {rg kd nm sg pt : Int → Int} {ca : Int → Int → Int} {rs rp rl th la ln : Int → Int} {ce : Int → Int → Int} (hV : CV np ns day nr tr fl rg kd nm sg pt ca rs rp rl th la ln ce μ) (hW : WF np ns day nr tr fl rg kd nm sg pt ca rs rp rl th la ln ce) : Ct K (d + 2) yX4_name cX4_name 4 (some .int) [vR 0, vI k, vI g] μ (fun r μ' => (∀ a, 42 ≤ a → μ' a = μ a) ∧ (if ¬ (0 ≤ k ∧ k < ns) then r = some (vI (-1)) ∧ CV np ns day nr tr fl rg kd nm sg pt ca rs rp rl th la ln ce μ' else if ¬ (0 ≤ g ∧ g < 4) then r = some (vI (-2)) ∧ CV np ns day nr tr fl rg kd nm sg pt ca rs rp rl th la ln ce μ' else r = some (vI (nm k)) ∧ CV np ns day nr tr fl rg kd (fup nm k g) sg pt ca rs rp rl th la ln ce μ')) := by
  refine Ct.of (by decide) (Nat.le_of_ble_eq_true rfl) (fun X C => ?_)
  obtain ⟨⟨a0, a1, a2, a3⟩, ⟨b4, b5, b6, b7, b8, b9⟩, ⟨c0, c1, c2, c3⟩, dd, ee, ff⟩ := id hV
  obtain ⟨w0, w1, w2, w3, w4, w5, w6⟩ := id hW
  refine p_aload_n (pc := 0) C dX4_name_0 rfl ?_
  refine p_iload_n (pc := 1) C dX4_name_1 rfl ?_
  refine p_callVF (pc := 2) C ln_X4_89 dX4_name_2 (k_X4_isShip (by (repeat refine mg_n (by omega) ?_); first | assumption | exact mup_s _ _ _)) ⟨by omega, by omega⟩ (by (repeat refine mg_n (by omega) ?_); first | assumption | exact mup_s _ _ _) rfl rfl rfl rfl (Nat.le_of_ble_eq_true rfl) ?_
  refine p_ifne_b (pc := 5) (tgt := 10) C dX4_name_5 (by decide) (fun c_5 => ?_) (fun c_5 => ?_)
  · refine p_iload_n (pc := 10) C dX4_name_10 rfl ?_
    refine p_callSF (pc := 11) C ln_X4_118 dX4_name_11 (k_X4_isGood) rfl rfl (Nat.le_of_ble_eq_true rfl) ?_
    refine p_ifne_b (pc := 14) (tgt := 20) C dX4_name_14 (by decide) (fun c_14 => ?_) (fun c_14 => ?_)
    · obtain ⟨s1, s2⟩ := dd k (by omega) (by omega)
      obtain ⟨n1, n2, n3⟩ := w3 k (by omega) (by omega)
      obtain ⟨x1, x2⟩ := w4 k (by omega) (by omega)
      refine p_aload_n (pc := 20) C dX4_name_20 rfl ?_
      refine p_get (pc := 21) C fl_X4_17 dX4_name_21 ⟨by omega, by omega⟩ (by (repeat refine mg_n (by omega) ?_); first | assumption | exact mup_s _ _ _) (by rfl) ?_
      refine p_iload_n (pc := 24) C dX4_name_24 rfl ?_
      refine p_aald (pc := 25) C dX4_name_25 ⟨by omega, by omega⟩ (by (repeat refine mg_n (by omega) ?_); first | assumption | exact mup_s _ _ _) (by decide) (by omega) (by rfl) ?_
      refine p_get (pc := 26) C fl_X4_95 dX4_name_26 ⟨by omega, by omega⟩ (by (repeat refine mg_n (by omega) ?_); first | assumption | exact mup_s _ _ _) (by rfl) ?_
      refine p_istore_n (pc := 29) (ls' := [(3, _), (0, _), (1, _), (2, _)]) C dX4_name_29 (by decide) rfl ?_
      refine p_aload_n (pc := 30) C dX4_name_30 rfl ?_
      refine p_get (pc := 31) C fl_X4_17 dX4_name_31 ⟨by omega, by omega⟩ (by (repeat refine mg_n (by omega) ?_); first | assumption | exact mup_s _ _ _) (by rfl) ?_
      refine p_iload_n (pc := 34) C dX4_name_34 rfl ?_
      refine p_aald (pc := 35) C dX4_name_35 ⟨by omega, by omega⟩ (by (repeat refine mg_n (by omega) ?_); first | assumption | exact mup_s _ _ _) (by decide) (by omega) (by rfl) ?_
      refine p_iload_n (pc := 36) C dX4_name_36 rfl ?_
      refine p_putL (pc := 37) (fs' := [_, _, _, _, _]) C fp_X4_95 dX4_name_37 ⟨by omega, by omega⟩ (by (repeat refine mg_n (by omega) ?_); first | assumption | exact mup_s _ _ _) (by exact Nat.le_of_ble_eq_true rfl) (by rfl) ?_
      try refine p_mem (mup_mup _ _ _ _) ?_
      refine p_iload_n (pc := 40) C dX4_name_40 rfl ?_
      refine p_iret (pc := 41) C dX4_name_41 ?_
      first
        | (refine ⟨fun q hq => by (repeat (refine mg_n (by omega) ?_)); rfl, ?_⟩; rw [if_pos (by omega)]; exact ⟨rfl, hV⟩)
        | (refine ⟨fun q hq => by (repeat (refine mg_n (by omega) ?_)); rfl, ?_⟩; rw [if_neg (by omega), if_pos (by omega)]; exact ⟨rfl, hV⟩)
        | (refine ⟨fun q hq => by (repeat (refine mg_n (by omega) ?_)); rfl, ?_⟩; rw [if_neg (by omega), if_neg (by omega)]; exact ⟨rfl, CV_nm hV (by omega) (by omega)⟩)
    · refine p_bipush (pc := 17) C dX4_name_17 (by decide) ?_
      refine p_iret (pc := 19) C dX4_name_19 ?_
      first
        | (refine ⟨fun q hq => by (repeat (refine mg_n (by omega) ?_)); rfl, ?_⟩; rw [if_pos (by omega)]; exact ⟨rfl, hV⟩)
        | (refine ⟨fun q hq => by (repeat (refine mg_n (by omega) ?_)); rfl, ?_⟩; rw [if_neg (by omega), if_pos (by omega)]; exact ⟨rfl, hV⟩)
        | (refine ⟨fun q hq => by (repeat (refine mg_n (by omega) ?_)); rfl, ?_⟩; rw [if_neg (by omega), if_neg (by omega)]; exact ⟨rfl, CV_nm hV (by omega) (by omega)⟩)
  · refine p_iconst (pc := 8) C dX4_name_8 (by decide) ?_
    refine p_iret (pc := 9) C dX4_name_9 ?_
    first
      | (refine ⟨fun q hq => by (repeat (refine mg_n (by omega) ?_)); rfl, ?_⟩; rw [if_pos (by omega)]; exact ⟨rfl, hV⟩)
      | (refine ⟨fun q hq => by (repeat (refine mg_n (by omega) ?_)); rfl, ?_⟩; rw [if_neg (by omega), if_pos (by omega)]; exact ⟨rfl, hV⟩)
      | (refine ⟨fun q hq => by (repeat (refine mg_n (by omega) ?_)); rfl, ?_⟩; rw [if_neg (by omega), if_neg (by omega)]; exact ⟨rfl, CV_nm hV (by omega) (by omega)⟩)
