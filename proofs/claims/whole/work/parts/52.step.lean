/-! BOTH OBJECTS hold the same numbers; each call keeps it so, and answers alike -/
def INV (μ : Int → ME) : Prop := ∃ (np ns day nr tr fl : Int) (rg kd nm sg pt : Int → Int) (ca : Int → Int → Int) (rs rp rl th la ln : Int → Int) (ce : Int → Int → Int), CV np ns day nr tr fl rg kd nm sg pt ca rs rp rl th la ln ce μ ∧ MV np ns day nr tr fl rg kd nm sg pt ca rs rp rl th la ln ce μ ∧ WF np ns day nr tr fl rg kd nm sg pt ca rs rp rl th la ln ce
/-- a contract with one answer -/
def CtE (K : KX) (d : Nat) (y : MethodName) (bytes : ByteArray) (maxL : Nat) (ret : Option FieldType) (av : List PV) (μ : Int → ME) (v : PV) (J : (Int → ME) → Prop) : Prop := ∃ Post : Option PV → (Int → ME) → Prop, Ct K d y bytes maxL ret av μ Post ∧ ∀ r μ', Post r μ' → r = some v ∧ J μ'

theorem WF_rg {np ns day nr tr fl : Int} {rg kd nm sg pt : Int → Int} {ca : Int → Int → Int} {rs rp rl th la ln : Int → Int} {ce : Int → Int → Int} {p v : Int} (hW : WF np ns day nr tr fl rg kd nm sg pt ca rs rp rl th la ln ce) (hv : 0 ≤ v ∧ v ≤ 9) : WF np ns day nr tr fl (fup rg p v) kd nm sg pt ca rs rp rl th la ln ce := by
  obtain ⟨w0, w1, w2, w3, w4, w5, w6⟩ := hW
  refine ⟨w0, w1, fun j j0 j1 => ?_, w3, w4, w5, w6⟩
  by_cases e : j = p
  · subst e; rw [fup_s]; exact hv
  · rw [fup_n _ _ _ e]; exact w2 j j0 j1

theorem WF_nm {np ns day nr tr fl : Int} {rg kd nm sg pt : Int → Int} {ca : Int → Int → Int} {rs rp rl th la ln : Int → Int} {ce : Int → Int → Int} {k g : Int} (hW : WF np ns day nr tr fl rg kd nm sg pt ca rs rp rl th la ln ce) (hg : 0 ≤ g ∧ g < 4) : WF np ns day nr tr fl rg kd (fup nm k g) sg pt ca rs rp rl th la ln ce := by
  obtain ⟨w0, w1, w2, w3, w4, w5, w6⟩ := hW
  refine ⟨w0, w1, w2, fun j j0 j1 => ?_, w4, w5, w6⟩
  obtain ⟨a, b, c⟩ := w3 j j0 j1
  by_cases e : j = k
  · subst e; rw [fup_s]; exact ⟨a, hg, c⟩
  · rw [fup_n _ _ _ e]; exact ⟨a, b, c⟩

theorem WF_ca {np ns day nr tr fl : Int} {rg kd nm sg pt : Int → Int} {ca : Int → Int → Int} {rs rp rl th la ln : Int → Int} {ce : Int → Int → Int} {k g v : Int} (hW : WF np ns day nr tr fl rg kd nm sg pt ca rs rp rl th la ln ce) (hv : 0 ≤ v ∧ v ≤ 9) : WF np ns day nr tr fl rg kd nm sg pt (cup ca k (fup (ca k) g v)) rs rp rl th la ln ce := by
  obtain ⟨w0, w1, w2, w3, w4, w5, w6⟩ := hW
  refine ⟨w0, w1, w2, w3, fun j j0 j1 => ?_, w5, w6⟩
  obtain ⟨a, b⟩ := w4 j j0 j1
  refine ⟨a, ?_⟩
  by_cases e : j = k
  · subst e; rw [cup_s]; exact bd4_fup b hv
  · rw [cup_n _ _ e]; exact b

theorem WF_dy {np ns day nr tr fl : Int} {rg kd nm sg pt : Int → Int} {ca : Int → Int → Int} {rs rp rl th la ln : Int → Int} {ce : Int → Int → Int} {t : Nat} (hW : WF np ns day nr tr fl rg kd nm sg pt ca rs rp rl th la ln ce)  : WF np ns day nr tr fl rg kd nm sg ((dyN np ns rg kd nm sg (pt, ca, 0, 0, -9) t).1) ((dyN np ns rg kd nm sg (pt, ca, 0, 0, -9) t).2.1) rs rp rl th la ln ce := by
  obtain ⟨w0, w1, w2, w3, w4, w5, w6⟩ := hW
  exact ⟨w0, w1, w2, w3, (WS_dy w3 (by omega) t (pt, ca, 0, 0, -9) w4).1, w5, w6⟩

theorem WF_rd {np ns day nr tr fl : Int} {rg kd nm sg pt : Int → Int} {ca : Int → Int → Int} {rs rp rl th la ln : Int → Int} {ce : Int → Int → Int} {k p x : Int} (hW : WF np ns day nr tr fl rg kd nm sg pt ca rs rp rl th la ln ce) (hk : 0 ≤ k ∧ k < ns) (hp : 0 ≤ p ∧ p < np) (hx : 0 ≤ x ∧ x ≤ 1) (hn : ¬ 8 ≤ nr) : WF np ns day (nr + 1) tr fl rg kd nm sg pt ca (fup rs nr k) (fup rp nr p) (fup rl nr x) th la ln ce := by
  obtain ⟨w0, w1, w2, w3, w4, w5, w6⟩ := hW
  refine ⟨w0, by omega, w2, w3, w4, fun j j0 j1 => ?_, w6⟩
  by_cases e : j = nr
  · subst e; rw [fup_s, fup_s, fup_s]; exact ⟨hk, hp, hx⟩
  · rw [fup_n _ _ _ e, fup_n _ _ _ e, fup_n _ _ _ e]; exact w5 j j0 (by omega)

theorem WF_bk {np ns day nr tr fl : Int} {rg kd nm sg pt : Int → Int} {ca : Int → Int → Int} {rs rp rl th la ln : Int → Int} {ce : Int → Int → Int} {k : Int} (hW : WF np ns day nr tr fl rg kd nm sg pt ca rs rp rl th la ln ce) (hk : 0 ≤ k ∧ k ≤ nr) : WF np ns day (nr - k) tr fl rg kd nm sg pt ca rs rp rl th la ln ce := by
  obtain ⟨w0, w1, w2, w3, w4, w5, w6⟩ := hW
  exact ⟨w0, by omega, w2, w3, w4, fun j j0 j1 => w5 j j0 (by omega), w6⟩

theorem WF_sh {np ns day nr tr fl : Int} {rg kd nm sg pt : Int → Int} {ca : Int → Int → Int} {rs rp rl th la ln : Int → Int} {ce : Int → Int → Int} {k l n : Int} (hW : WF np ns day nr tr fl rg kd nm sg pt ca rs rp rl th la ln ce) (hl : 0 ≤ l ∧ l < 3) (hn : 0 ≤ n ∧ n ≤ 60) : WF np ns day nr tr (0) rg kd nm sg pt ca rs rp rl (fup th k 1) (fup la k l) (fup ln k n) (cup ce k (fz (ce k) n)) := by
  obtain ⟨w0, w1, w2, w3, w4, w5, w6⟩ := hW
  refine ⟨w0, w1, w2, w3, w4, w5, fun j j0 j1 => ?_⟩
  obtain ⟨a, b, c⟩ := w6 j j0 j1
  by_cases e : j = k
  · subst e; rw [fup_s, fup_s, fup_s]; exact ⟨Or.inr rfl, fun _ => by omega, hn⟩
  · rw [fup_n _ _ _ e, fup_n _ _ _ e, fup_n _ _ _ e]; exact ⟨a, b, c⟩

theorem WF_lo {np ns day nr tr fl : Int} {rg kd nm sg pt : Int → Int} {ca : Int → Int → Int} {rs rp rl th la ln : Int → Int} {ce : Int → Int → Int} {k : Int} (hW : WF np ns day nr tr fl rg kd nm sg pt ca rs rp rl th la ln ce)  : WF np ns day nr tr fl rg kd nm sg pt ca rs rp rl (fup th k 0) la ln ce := by
  obtain ⟨w0, w1, w2, w3, w4, w5, w6⟩ := hW
  refine ⟨w0, w1, w2, w3, w4, w5, fun j j0 j1 => ?_⟩
  obtain ⟨a, b, c⟩ := w6 j j0 j1
  by_cases e : j = k
  · subst e; rw [fup_s]; exact ⟨Or.inl rfl, fun h => by omega, c⟩
  · rw [fup_n _ _ _ e]; exact ⟨a, b, c⟩

theorem WF_sea {np ns day nr tr fl : Int} {rg kd nm sg pt : Int → Int} {ca : Int → Int → Int} {rs rp rl th la ln : Int → Int} {ce : Int → Int → Int} {F : Int → Int} {i n q m : Int} (hW : WF np ns day nr tr fl rg kd nm sg pt ca rs rp rl th la ln ce) (h : okT F i n q m) : WF (q) (m) (0) (0) tr (0) (tkR F i rg q) (tkK F i q kd m) (tkS F i q 2 nm m) (tkS F i q 3 sg m) (tkS F i q 4 pt m) (tkC F i q ca m) rs rp rl th la ln ce := by
  obtain ⟨w0, w1, w2, w3, w4, w5, w6⟩ := hW
  obtain ⟨o1, o2, o3, o4, o5, o6⟩ := h
  refine ⟨Or.inr ⟨o2, o1⟩, by omega, fun p p0 p1 => ?_, fun k k0 k1 => ?_, fun k k0 k1 => ?_, fun j j0 j1 => by omega, w6⟩
  · unfold tkR; rw [if_pos ⟨p0, p1⟩]
    have := o5 p p0 p1
    omega
  · unfold tkK tkS
    rw [if_pos ⟨k0, k1⟩, if_pos ⟨k0, k1⟩, if_pos ⟨k0, k1⟩]
    have a1 := o6 k 1 k0 k1 (by omega) (by omega)
    have a2 := o6 k 2 k0 k1 (by omega) (by omega)
    have a3 := o6 k 3 k0 k1 (by omega) (by omega)
    refine ⟨?_, by omega, by omega⟩
    generalize F (i + (1 + q + 9 * k) + 1) = z at a1
    unfold kbc
    split
    · omega
    · split
      · omega
      · split <;> omega
  · have a4 := o6 k 4 k0 k1 (by omega) (by omega)
    have a5 := o6 k 5 k0 k1 (by omega) (by omega)
    have a6 := o6 k 6 k0 k1 (by omega) (by omega)
    have a7 := o6 k 7 k0 k1 (by omega) (by omega)
    have a8 := o6 k 8 k0 k1 (by omega) (by omega)
    refine ⟨?_, ?_⟩
    · unfold tkS; rw [if_pos ⟨k0, k1⟩]; omega
    · unfold tkC; rw [if_pos ⟨k0, k1⟩]
      rw [show i + (1 + q + 9 * k) + 5 + 0 = i + (1 + q + 9 * k) + 5 by omega, show i + (1 + q + 9 * k) + 5 + 1 = i + (1 + q + 9 * k) + 6 by omega, show i + (1 + q + 9 * k) + 5 + 2 = i + (1 + q + 9 * k) + 7 by omega, show i + (1 + q + 9 * k) + 5 + 3 = i + (1 + q + 9 * k) + 8 by omega]
      refine ⟨?_, ?_, ?_, ?_⟩
      · rw [fup_n _ _ _ (by omega), fup_n _ _ _ (by omega), fup_n _ _ _ (by omega), fup_s]; omega
      · rw [fup_n _ _ _ (by omega), fup_n _ _ _ (by omega), fup_s]; omega
      · rw [fup_n _ _ _ (by omega), fup_s]; omega
      · rw [fup_s]; omega

theorem MV.o {np ns day nr tr fl : Int} {rg kd nm sg pt : Int → Int} {ca : Int → Int → Int} {rs rp rl th la ln : Int → Int} {ce : Int → Int → Int} {μ : Int → ME} (h : MV np ns day nr tr fl rg kd nm sg pt ca rs rp rl th la ln ce μ) : ∃ fs, μ 42 = mO 5 fs := by
  obtain ⟨⟨_, _, _, _, _, _, _, _, h⟩, _⟩ := h
  exact ⟨_, h⟩
theorem INV.o {μ : Int → ME} (h : INV μ) : ∃ fs, μ 0 = mO 4 fs := by
  obtain ⟨np, ns, day, nr, tr, fl, rg, kd, nm, sg, pt, ca, rs, rp, rl, th, la, ln, ce, hC, -, -⟩ := h
  exact ⟨_, hC.1.1⟩

set_option maxHeartbeats 4000000 in
theorem s_sea {K : KX} {s l i n : Int} {μ : Int → ME} (hI : INV μ) : ∃ (ans : Int) (J : (Int → ME) → Prop), CtE K 7 yX4_sea cX4_sea 8 (some .int) [vR 0, vI s, vI l, vI i, vI n] μ (vI ans) J ∧ ∀ μ', J μ' → (∃ fs, μ' 42 = mO 5 fs) ∧ CtE K 7 yX5_sea cX5_sea 7 (some .int) [vR 42, vI s, vI l, vI i, vI n] μ' (vI ans) INV := by
  obtain ⟨np, ns, day, nr, tr, fl, rg, kd, nm, sg, pt, ca, rs, rp, rl, th, la, ln, ce, hC, hM, hW⟩ := hI
  by_cases c0 : ¬ (0 ≤ s ∧ s < 4)
  · exact ⟨-1, fun ν => CV np ns day nr tr (0) rg kd nm sg pt ca rs rp rl th la ln ce ν ∧ MV np ns day nr tr fl rg kd nm sg pt ca rs rp rl th la ln ce ν, ⟨_, q_X4_sea hC hW, fun r ν h => by obtain ⟨hf, h⟩ := h; rw [if_pos c0] at h; exact ⟨h.1, h.2, hM.eq hf⟩⟩, fun ν hJ => ⟨hJ.2.o, _, q_X5_sea hJ.2 hW, fun r ν2 h => by obtain ⟨hf, h⟩ := h; rw [if_pos c0] at h; exact ⟨h.1, _, _, _, _, _, _, _, _, _, _, _, _, _, _, _, _, _, _, _, hJ.1.eq (fun a _ h1 => hf a h1), h.2, hW⟩⟩⟩
  by_cases c1 : ¬ (0 ≤ l ∧ l < 3)
  · exact ⟨-2, fun ν => CV np ns day nr tr (0) rg kd nm sg pt ca rs rp rl th la ln ce ν ∧ MV np ns day nr tr fl rg kd nm sg pt ca rs rp rl th la ln ce ν, ⟨_, q_X4_sea hC hW, fun r ν h => by obtain ⟨hf, h⟩ := h; rw [if_neg c0, if_pos c1] at h; exact ⟨h.1, h.2, hM.eq hf⟩⟩, fun ν hJ => ⟨hJ.2.o, _, q_X5_sea hJ.2 hW, fun r ν2 h => by obtain ⟨hf, h⟩ := h; rw [if_neg c0, if_pos c1] at h; exact ⟨h.1, _, _, _, _, _, _, _, _, _, _, _, _, _, _, _, _, _, _, _, hJ.1.eq (fun a _ h1 => hf a h1), h.2, hW⟩⟩⟩
  by_cases c2 : fot (th s) (la s) (ln s) l i n ≠ 0
  · exact ⟨-10 - fot (th s) (la s) (ln s) l i n, fun ν => CV np ns day nr tr (fot (th s) (la s) (ln s) l i n) rg kd nm sg pt ca rs rp rl th la ln ce ν ∧ MV np ns day nr tr fl rg kd nm sg pt ca rs rp rl th la ln ce ν, ⟨_, q_X4_sea hC hW, fun r ν h => by obtain ⟨hf, h⟩ := h; rw [if_neg c0, if_neg c1, if_pos c2] at h; exact ⟨h.1, h.2, hM.eq hf⟩⟩, fun ν hJ => ⟨hJ.2.o, _, q_X5_sea hJ.2 hW, fun r ν2 h => by obtain ⟨hf, h⟩ := h; rw [if_neg c0, if_neg c1, if_pos c2] at h; exact ⟨h.1, _, _, _, _, _, _, _, _, _, _, _, _, _, _, _, _, _, _, _, hJ.1.eq (fun a _ h1 => hf a h1), h.2, hW⟩⟩⟩
  by_cases c3 : ffT (cAt (ln s) (ce s)) i n ≠ -9
  · exact ⟨-100 - ffT (cAt (ln s) (ce s)) i n, fun ν => CV np ns day nr tr (0) rg kd nm sg pt ca rs rp rl th la ln ce ν ∧ MV np ns day nr tr fl rg kd nm sg pt ca rs rp rl th la ln ce ν, ⟨_, q_X4_sea hC hW, fun r ν h => by obtain ⟨hf, h⟩ := h; rw [if_neg c0, if_neg c1, if_neg c2, if_pos c3] at h; exact ⟨h.1, h.2, hM.eq hf⟩⟩, fun ν hJ => ⟨hJ.2.o, _, q_X5_sea hJ.2 hW, fun r ν2 h => by obtain ⟨hf, h⟩ := h; rw [if_neg c0, if_neg c1, if_neg c2, if_pos c3] at h; exact ⟨h.1, _, _, _, _, _, _, _, _, _, _, _, _, _, _, _, _, _, _, _, hJ.1.eq (fun a _ h1 => hf a h1), h.2, hW⟩⟩⟩
  exact ⟨(n - 1 - cpN (cAt (ln s) (ce s)) i n 0 6) / 9, fun ν => CV (cpN (cAt (ln s) (ce s)) i n 0 6) ((n - 1 - cpN (cAt (ln s) (ce s)) i n 0 6) / 9) (0) (0) tr (0) (tkR (cAt (ln s) (ce s)) i rg (cpN (cAt (ln s) (ce s)) i n 0 6)) (tkK (cAt (ln s) (ce s)) i (cpN (cAt (ln s) (ce s)) i n 0 6) kd ((n - 1 - cpN (cAt (ln s) (ce s)) i n 0 6) / 9)) (tkS (cAt (ln s) (ce s)) i (cpN (cAt (ln s) (ce s)) i n 0 6) 2 nm ((n - 1 - cpN (cAt (ln s) (ce s)) i n 0 6) / 9)) (tkS (cAt (ln s) (ce s)) i (cpN (cAt (ln s) (ce s)) i n 0 6) 3 sg ((n - 1 - cpN (cAt (ln s) (ce s)) i n 0 6) / 9)) (tkS (cAt (ln s) (ce s)) i (cpN (cAt (ln s) (ce s)) i n 0 6) 4 pt ((n - 1 - cpN (cAt (ln s) (ce s)) i n 0 6) / 9)) (tkC (cAt (ln s) (ce s)) i (cpN (cAt (ln s) (ce s)) i n 0 6) ca ((n - 1 - cpN (cAt (ln s) (ce s)) i n 0 6) / 9)) rs rp rl th la ln ce ν ∧ MV np ns day nr tr fl rg kd nm sg pt ca rs rp rl th la ln ce ν, ⟨_, q_X4_sea hC hW, fun r ν h => by obtain ⟨hf, h⟩ := h; rw [if_neg c0, if_neg c1, if_neg c2, if_neg c3] at h; exact ⟨h.1, h.2, hM.eq hf⟩⟩, fun ν hJ => ⟨hJ.2.o, _, q_X5_sea hJ.2 hW, fun r ν2 h => by obtain ⟨hf, h⟩ := h; rw [if_neg c0, if_neg c1, if_neg c2, if_neg c3] at h; exact ⟨h.1, _, _, _, _, _, _, _, _, _, _, _, _, _, _, _, _, _, _, _, hJ.1.eq (fun a _ h1 => hf a h1), h.2, (by obtain ⟨m, hm⟩ := ffT_ok (Decidable.of_not_not c3); rw [show (n - 1 - cpN (cAt (ln s) (ce s)) i n 0 6) / 9 = m by have := hm.2.2.1; omega]; exact WF_sea hW hm)⟩⟩⟩

set_option maxHeartbeats 4000000 in
theorem s_ofShip {K : KX} {k w : Int} {μ : Int → ME} (hI : INV μ) (hw : rng w) : ∃ (ans : Int) (J : (Int → ME) → Prop), CtE K 7 yX4_ofShip cX4_ofShip 4 (some .int) [vR 0, vI k, vI w] μ (vI ans) J ∧ ∀ μ', J μ' → (∃ fs, μ' 42 = mO 5 fs) ∧ CtE K 7 yX5_ofShip cX5_ofShip 3 (some .int) [vR 42, vI k, vI w] μ' (vI ans) INV := by
  obtain ⟨np, ns, day, nr, tr, fl, rg, kd, nm, sg, pt, ca, rs, rp, rl, th, la, ln, ce, hC, hM, hW⟩ := hI
  by_cases c0 : ¬ (0 ≤ k ∧ k < ns)
  · exact ⟨-1, fun ν => CV np ns day nr tr fl rg kd nm sg pt ca rs rp rl th la ln ce ν ∧ MV np ns day nr tr fl rg kd nm sg pt ca rs rp rl th la ln ce ν, ⟨_, q_X4_ofShip hC hW hw, fun r ν h => by obtain ⟨hf, h⟩ := h; rw [if_pos c0] at h; exact ⟨h.1, h.2, hM.eq hf⟩⟩, fun ν hJ => ⟨hJ.2.o, _, q_X5_ofShip hJ.2 hW, fun r ν2 h => by obtain ⟨hf, h⟩ := h; rw [if_pos c0] at h; exact ⟨h.1, _, _, _, _, _, _, _, _, _, _, _, _, _, _, _, _, _, _, _, hJ.1.eq (fun a _ h1 => hf a h1), h.2, hW⟩⟩⟩
  exact ⟨ofS (kd k) (nm k) (sg k) (pt k) (ca k) w, fun ν => CV np ns day nr tr fl rg kd nm sg pt ca rs rp rl th la ln ce ν ∧ MV np ns day nr tr fl rg kd nm sg pt ca rs rp rl th la ln ce ν, ⟨_, q_X4_ofShip hC hW hw, fun r ν h => by obtain ⟨hf, h⟩ := h; rw [if_neg c0] at h; exact ⟨h.1, h.2, hM.eq hf⟩⟩, fun ν hJ => ⟨hJ.2.o, _, q_X5_ofShip hJ.2 hW, fun r ν2 h => by obtain ⟨hf, h⟩ := h; rw [if_neg c0] at h; exact ⟨h.1, _, _, _, _, _, _, _, _, _, _, _, _, _, _, _, _, _, _, _, hJ.1.eq (fun a _ h1 => hf a h1), h.2, hW⟩⟩⟩

set_option maxHeartbeats 4000000 in
theorem s_rough {K : KX} {p : Int} {μ : Int → ME} (hI : INV μ) : ∃ (ans : Int) (J : (Int → ME) → Prop), CtE K 7 yX4_rough cX4_rough 2 (some .int) [vR 0, vI p] μ (vI ans) J ∧ ∀ μ', J μ' → (∃ fs, μ' 42 = mO 5 fs) ∧ CtE K 7 yX5_rough cX5_rough 2 (some .int) [vR 42, vI p] μ' (vI ans) INV := by
  obtain ⟨np, ns, day, nr, tr, fl, rg, kd, nm, sg, pt, ca, rs, rp, rl, th, la, ln, ce, hC, hM, hW⟩ := hI
  by_cases c0 : ¬ (0 ≤ p ∧ p < np)
  · exact ⟨-1, fun ν => CV np ns day nr tr fl rg kd nm sg pt ca rs rp rl th la ln ce ν ∧ MV np ns day nr tr fl rg kd nm sg pt ca rs rp rl th la ln ce ν, ⟨_, q_X4_rough hC hW, fun r ν h => by obtain ⟨hf, h⟩ := h; rw [if_pos c0] at h; exact ⟨h.1, h.2, hM.eq hf⟩⟩, fun ν hJ => ⟨hJ.2.o, _, q_X5_rough hJ.2 hW, fun r ν2 h => by obtain ⟨hf, h⟩ := h; rw [if_pos c0] at h; exact ⟨h.1, _, _, _, _, _, _, _, _, _, _, _, _, _, _, _, _, _, _, _, hJ.1.eq (fun a _ h1 => hf a h1), h.2, hW⟩⟩⟩
  exact ⟨rg p, fun ν => CV np ns day nr tr fl rg kd nm sg pt ca rs rp rl th la ln ce ν ∧ MV np ns day nr tr fl rg kd nm sg pt ca rs rp rl th la ln ce ν, ⟨_, q_X4_rough hC hW, fun r ν h => by obtain ⟨hf, h⟩ := h; rw [if_neg c0] at h; exact ⟨h.1, h.2, hM.eq hf⟩⟩, fun ν hJ => ⟨hJ.2.o, _, q_X5_rough hJ.2 hW, fun r ν2 h => by obtain ⟨hf, h⟩ := h; rw [if_neg c0] at h; exact ⟨h.1, _, _, _, _, _, _, _, _, _, _, _, _, _, _, _, _, _, _, _, hJ.1.eq (fun a _ h1 => hf a h1), h.2, hW⟩⟩⟩

set_option maxHeartbeats 4000000 in
theorem s_blow {K : KX} {p v : Int} {μ : Int → ME} (hI : INV μ) : ∃ (ans : Int) (J : (Int → ME) → Prop), CtE K 7 yX4_blow cX4_blow 4 (some .int) [vR 0, vI p, vI v] μ (vI ans) J ∧ ∀ μ', J μ' → (∃ fs, μ' 42 = mO 5 fs) ∧ CtE K 7 yX5_blow cX5_blow 4 (some .int) [vR 42, vI p, vI v] μ' (vI ans) INV := by
  obtain ⟨np, ns, day, nr, tr, fl, rg, kd, nm, sg, pt, ca, rs, rp, rl, th, la, ln, ce, hC, hM, hW⟩ := hI
  by_cases c0 : ¬ (0 ≤ p ∧ p < np)
  · exact ⟨-1, fun ν => CV np ns day nr tr fl rg kd nm sg pt ca rs rp rl th la ln ce ν ∧ MV np ns day nr tr fl rg kd nm sg pt ca rs rp rl th la ln ce ν, ⟨_, q_X4_blow hC hW, fun r ν h => by obtain ⟨hf, h⟩ := h; rw [if_pos c0] at h; exact ⟨h.1, h.2, hM.eq hf⟩⟩, fun ν hJ => ⟨hJ.2.o, _, q_X5_blow hJ.2 hW, fun r ν2 h => by obtain ⟨hf, h⟩ := h; rw [if_pos c0] at h; exact ⟨h.1, _, _, _, _, _, _, _, _, _, _, _, _, _, _, _, _, _, _, _, hJ.1.eq (fun a _ h1 => hf a h1), h.2, hW⟩⟩⟩
  by_cases c1 : ¬ (0 ≤ v ∧ v ≤ 9)
  · exact ⟨-2, fun ν => CV np ns day nr tr fl rg kd nm sg pt ca rs rp rl th la ln ce ν ∧ MV np ns day nr tr fl rg kd nm sg pt ca rs rp rl th la ln ce ν, ⟨_, q_X4_blow hC hW, fun r ν h => by obtain ⟨hf, h⟩ := h; rw [if_neg c0, if_pos c1] at h; exact ⟨h.1, h.2, hM.eq hf⟩⟩, fun ν hJ => ⟨hJ.2.o, _, q_X5_blow hJ.2 hW, fun r ν2 h => by obtain ⟨hf, h⟩ := h; rw [if_neg c0, if_pos c1] at h; exact ⟨h.1, _, _, _, _, _, _, _, _, _, _, _, _, _, _, _, _, _, _, _, hJ.1.eq (fun a _ h1 => hf a h1), h.2, hW⟩⟩⟩
  exact ⟨rg p, fun ν => CV np ns day nr tr fl (fup rg p v) kd nm sg pt ca rs rp rl th la ln ce ν ∧ MV np ns day nr tr fl rg kd nm sg pt ca rs rp rl th la ln ce ν, ⟨_, q_X4_blow hC hW, fun r ν h => by obtain ⟨hf, h⟩ := h; rw [if_neg c0, if_neg c1] at h; exact ⟨h.1, h.2, hM.eq hf⟩⟩, fun ν hJ => ⟨hJ.2.o, _, q_X5_blow hJ.2 hW, fun r ν2 h => by obtain ⟨hf, h⟩ := h; rw [if_neg c0, if_neg c1] at h; exact ⟨h.1, _, _, _, _, _, _, _, _, _, _, _, _, _, _, _, _, _, _, _, hJ.1.eq (fun a _ h1 => hf a h1), h.2, WF_rg hW (by omega)⟩⟩⟩

set_option maxHeartbeats 4000000 in
theorem s_name {K : KX} {k g : Int} {μ : Int → ME} (hI : INV μ) : ∃ (ans : Int) (J : (Int → ME) → Prop), CtE K 7 yX4_name cX4_name 4 (some .int) [vR 0, vI k, vI g] μ (vI ans) J ∧ ∀ μ', J μ' → (∃ fs, μ' 42 = mO 5 fs) ∧ CtE K 7 yX5_name cX5_name 4 (some .int) [vR 42, vI k, vI g] μ' (vI ans) INV := by
  obtain ⟨np, ns, day, nr, tr, fl, rg, kd, nm, sg, pt, ca, rs, rp, rl, th, la, ln, ce, hC, hM, hW⟩ := hI
  by_cases c0 : ¬ (0 ≤ k ∧ k < ns)
  · exact ⟨-1, fun ν => CV np ns day nr tr fl rg kd nm sg pt ca rs rp rl th la ln ce ν ∧ MV np ns day nr tr fl rg kd nm sg pt ca rs rp rl th la ln ce ν, ⟨_, q_X4_name hC hW, fun r ν h => by obtain ⟨hf, h⟩ := h; rw [if_pos c0] at h; exact ⟨h.1, h.2, hM.eq hf⟩⟩, fun ν hJ => ⟨hJ.2.o, _, q_X5_name hJ.2 hW, fun r ν2 h => by obtain ⟨hf, h⟩ := h; rw [if_pos c0] at h; exact ⟨h.1, _, _, _, _, _, _, _, _, _, _, _, _, _, _, _, _, _, _, _, hJ.1.eq (fun a _ h1 => hf a h1), h.2, hW⟩⟩⟩
  by_cases c1 : ¬ (0 ≤ g ∧ g < 4)
  · exact ⟨-2, fun ν => CV np ns day nr tr fl rg kd nm sg pt ca rs rp rl th la ln ce ν ∧ MV np ns day nr tr fl rg kd nm sg pt ca rs rp rl th la ln ce ν, ⟨_, q_X4_name hC hW, fun r ν h => by obtain ⟨hf, h⟩ := h; rw [if_neg c0, if_pos c1] at h; exact ⟨h.1, h.2, hM.eq hf⟩⟩, fun ν hJ => ⟨hJ.2.o, _, q_X5_name hJ.2 hW, fun r ν2 h => by obtain ⟨hf, h⟩ := h; rw [if_neg c0, if_pos c1] at h; exact ⟨h.1, _, _, _, _, _, _, _, _, _, _, _, _, _, _, _, _, _, _, _, hJ.1.eq (fun a _ h1 => hf a h1), h.2, hW⟩⟩⟩
  exact ⟨nm k, fun ν => CV np ns day nr tr fl rg kd (fup nm k g) sg pt ca rs rp rl th la ln ce ν ∧ MV np ns day nr tr fl rg kd nm sg pt ca rs rp rl th la ln ce ν, ⟨_, q_X4_name hC hW, fun r ν h => by obtain ⟨hf, h⟩ := h; rw [if_neg c0, if_neg c1] at h; exact ⟨h.1, h.2, hM.eq hf⟩⟩, fun ν hJ => ⟨hJ.2.o, _, q_X5_name hJ.2 hW, fun r ν2 h => by obtain ⟨hf, h⟩ := h; rw [if_neg c0, if_neg c1] at h; exact ⟨h.1, _, _, _, _, _, _, _, _, _, _, _, _, _, _, _, _, _, _, _, hJ.1.eq (fun a _ h1 => hf a h1), h.2, WF_nm hW (by omega)⟩⟩⟩

set_option maxHeartbeats 4000000 in
theorem s_days {K : KX} {n : Int} {μ : Int → ME} (hI : INV μ) : ∃ (ans : Int) (J : (Int → ME) → Prop), CtE K 7 yX4_days cX4_days 5 (some .int) [vR 0, vI n] μ (vI ans) J ∧ ∀ μ', J μ' → (∃ fs, μ' 42 = mO 5 fs) ∧ CtE K 7 yX5_days cX5_days 5 (some .int) [vR 42, vI n] μ' (vI ans) INV := by
  obtain ⟨np, ns, day, nr, tr, fl, rg, kd, nm, sg, pt, ca, rs, rp, rl, th, la, ln, ce, hC, hM, hW⟩ := hI
  by_cases c0 : ¬ (1 ≤ n ∧ n ≤ 30)
  · exact ⟨-2, fun ν => CV np ns day nr tr fl rg kd nm sg pt ca rs rp rl th la ln ce ν ∧ MV np ns day nr tr fl rg kd nm sg pt ca rs rp rl th la ln ce ν, ⟨_, q_X4_days hC hW, fun r ν h => by obtain ⟨hf, h⟩ := h; rw [if_pos c0] at h; exact ⟨h.1, h.2, hM.eq hf⟩⟩, fun ν hJ => ⟨hJ.2.o, _, q_X5_days hJ.2 hW, fun r ν2 h => by obtain ⟨hf, h⟩ := h; rw [if_pos c0] at h; exact ⟨h.1, _, _, _, _, _, _, _, _, _, _, _, _, _, _, _, _, _, _, _, hJ.1.eq (fun a _ h1 => hf a h1), h.2, hW⟩⟩⟩
  by_cases c1 : ¬ 0 < ns
  · exact ⟨-3, fun ν => CV np ns day nr tr fl rg kd nm sg pt ca rs rp rl th la ln ce ν ∧ MV np ns day nr tr fl rg kd nm sg pt ca rs rp rl th la ln ce ν, ⟨_, q_X4_days hC hW, fun r ν h => by obtain ⟨hf, h⟩ := h; rw [if_neg c0, if_pos c1] at h; exact ⟨h.1, h.2, hM.eq hf⟩⟩, fun ν hJ => ⟨hJ.2.o, _, q_X5_days hJ.2 hW, fun r ν2 h => by obtain ⟨hf, h⟩ := h; rw [if_neg c0, if_pos c1] at h; exact ⟨h.1, _, _, _, _, _, _, _, _, _, _, _, _, _, _, _, _, _, _, _, hJ.1.eq (fun a _ h1 => hf a h1), h.2, hW⟩⟩⟩
  exact ⟨(dyN np ns rg kd nm sg (pt, ca, 0, 0, -9) n.toNat).2.2.1, fun ν => CV np ns (iwr (day + n)) nr tr fl rg kd nm sg ((dyN np ns rg kd nm sg (pt, ca, 0, 0, -9) n.toNat).1) ((dyN np ns rg kd nm sg (pt, ca, 0, 0, -9) n.toNat).2.1) rs rp rl th la ln ce ν ∧ MV np ns day nr tr fl rg kd nm sg pt ca rs rp rl th la ln ce ν, ⟨_, q_X4_days hC hW, fun r ν h => by obtain ⟨hf, h⟩ := h; rw [if_neg c0, if_neg c1] at h; exact ⟨h.1, h.2, hM.eq hf⟩⟩, fun ν hJ => ⟨hJ.2.o, _, q_X5_days hJ.2 hW, fun r ν2 h => by obtain ⟨hf, h⟩ := h; rw [if_neg c0, if_neg c1] at h; exact ⟨h.1, _, _, _, _, _, _, _, _, _, _, _, _, _, _, _, _, _, _, _, hJ.1.eq (fun a _ h1 => hf a h1), h.2, WF_dy hW⟩⟩⟩

set_option maxHeartbeats 4000000 in
theorem s_load {K : KX} {k g n : Int} {μ : Int → ME} (hI : INV μ) : ∃ (ans : Int) (J : (Int → ME) → Prop), CtE K 7 yX4_load cX4_load 5 (some .int) [vR 0, vI k, vI g, vI n] μ (vI ans) J ∧ ∀ μ', J μ' → (∃ fs, μ' 42 = mO 5 fs) ∧ CtE K 7 yX5_load cX5_load 4 (some .int) [vR 42, vI k, vI g, vI n] μ' (vI ans) INV := by
  obtain ⟨np, ns, day, nr, tr, fl, rg, kd, nm, sg, pt, ca, rs, rp, rl, th, la, ln, ce, hC, hM, hW⟩ := hI
  by_cases c0 : ¬ (0 ≤ k ∧ k < ns)
  · exact ⟨-1, fun ν => CV np ns day nr tr fl rg kd nm sg pt ca rs rp rl th la ln ce ν ∧ MV np ns day nr tr fl rg kd nm sg pt ca rs rp rl th la ln ce ν, ⟨_, q_X4_load hC hW, fun r ν h => by obtain ⟨hf, h⟩ := h; rw [if_pos c0] at h; exact ⟨h.1, h.2, hM.eq hf⟩⟩, fun ν hJ => ⟨hJ.2.o, _, q_X5_load hJ.2 hW, fun r ν2 h => by obtain ⟨hf, h⟩ := h; rw [if_pos c0] at h; exact ⟨h.1, _, _, _, _, _, _, _, _, _, _, _, _, _, _, _, _, _, _, _, hJ.1.eq (fun a _ h1 => hf a h1), h.2, hW⟩⟩⟩
  by_cases c1 : ¬ ((0 ≤ g ∧ g < 4) ∧ (1 ≤ n ∧ n ≤ 9))
  · exact ⟨-2, fun ν => CV np ns day nr tr fl rg kd nm sg pt ca rs rp rl th la ln ce ν ∧ MV np ns day nr tr fl rg kd nm sg pt ca rs rp rl th la ln ce ν, ⟨_, q_X4_load hC hW, fun r ν h => by obtain ⟨hf, h⟩ := h; rw [if_neg c0, if_pos c1] at h; exact ⟨h.1, h.2, hM.eq hf⟩⟩, fun ν hJ => ⟨hJ.2.o, _, q_X5_load hJ.2 hW, fun r ν2 h => by obtain ⟨hf, h⟩ := h; rw [if_neg c0, if_pos c1] at h; exact ⟨h.1, _, _, _, _, _, _, _, _, _, _, _, _, _, _, _, _, _, _, _, hJ.1.eq (fun a _ h1 => hf a h1), h.2, hW⟩⟩⟩
  by_cases c2 : 9 < ca k g + n
  · exact ⟨-4, fun ν => CV np ns day nr tr fl rg kd nm sg pt ca rs rp rl th la ln ce ν ∧ MV np ns day nr tr fl rg kd nm sg pt ca rs rp rl th la ln ce ν, ⟨_, q_X4_load hC hW, fun r ν h => by obtain ⟨hf, h⟩ := h; rw [if_neg c0, if_neg c1, if_pos c2] at h; exact ⟨h.1, h.2, hM.eq hf⟩⟩, fun ν hJ => ⟨hJ.2.o, _, q_X5_load hJ.2 hW, fun r ν2 h => by obtain ⟨hf, h⟩ := h; rw [if_neg c0, if_neg c1, if_pos c2] at h; exact ⟨h.1, _, _, _, _, _, _, _, _, _, _, _, _, _, _, _, _, _, _, _, hJ.1.eq (fun a _ h1 => hf a h1), h.2, hW⟩⟩⟩
  exact ⟨ca k g + n, fun ν => CV np ns day nr tr fl rg kd nm sg pt (cup ca k (fup (ca k) g (ca k g + n))) rs rp rl th la ln ce ν ∧ MV np ns day nr tr fl rg kd nm sg pt ca rs rp rl th la ln ce ν, ⟨_, q_X4_load hC hW, fun r ν h => by obtain ⟨hf, h⟩ := h; rw [if_neg c0, if_neg c1, if_neg c2] at h; exact ⟨h.1, h.2, hM.eq hf⟩⟩, fun ν hJ => ⟨hJ.2.o, _, q_X5_load hJ.2 hW, fun r ν2 h => by obtain ⟨hf, h⟩ := h; rw [if_neg c0, if_neg c1, if_neg c2] at h; exact ⟨h.1, _, _, _, _, _, _, _, _, _, _, _, _, _, _, _, _, _, _, _, hJ.1.eq (fun a _ h1 => hf a h1), h.2, WF_ca hW (by have := (hW.2.2.2.2.1 k (by omega) (by omega)).2.at (g := g) (by omega) (by omega); omega)⟩⟩⟩

set_option maxHeartbeats 4000000 in
theorem s_off {K : KX} {k g n : Int} {μ : Int → ME} (hI : INV μ) : ∃ (ans : Int) (J : (Int → ME) → Prop), CtE K 7 yX4_off cX4_off 5 (some .int) [vR 0, vI k, vI g, vI n] μ (vI ans) J ∧ ∀ μ', J μ' → (∃ fs, μ' 42 = mO 5 fs) ∧ CtE K 7 yX5_off cX5_off 4 (some .int) [vR 42, vI k, vI g, vI n] μ' (vI ans) INV := by
  obtain ⟨np, ns, day, nr, tr, fl, rg, kd, nm, sg, pt, ca, rs, rp, rl, th, la, ln, ce, hC, hM, hW⟩ := hI
  by_cases c0 : ¬ (0 ≤ k ∧ k < ns)
  · exact ⟨-1, fun ν => CV np ns day nr tr fl rg kd nm sg pt ca rs rp rl th la ln ce ν ∧ MV np ns day nr tr fl rg kd nm sg pt ca rs rp rl th la ln ce ν, ⟨_, q_X4_off hC hW, fun r ν h => by obtain ⟨hf, h⟩ := h; rw [if_pos c0] at h; exact ⟨h.1, h.2, hM.eq hf⟩⟩, fun ν hJ => ⟨hJ.2.o, _, q_X5_off hJ.2 hW, fun r ν2 h => by obtain ⟨hf, h⟩ := h; rw [if_pos c0] at h; exact ⟨h.1, _, _, _, _, _, _, _, _, _, _, _, _, _, _, _, _, _, _, _, hJ.1.eq (fun a _ h1 => hf a h1), h.2, hW⟩⟩⟩
  by_cases c1 : ¬ ((0 ≤ g ∧ g < 4) ∧ (1 ≤ n ∧ n ≤ 9))
  · exact ⟨-2, fun ν => CV np ns day nr tr fl rg kd nm sg pt ca rs rp rl th la ln ce ν ∧ MV np ns day nr tr fl rg kd nm sg pt ca rs rp rl th la ln ce ν, ⟨_, q_X4_off hC hW, fun r ν h => by obtain ⟨hf, h⟩ := h; rw [if_neg c0, if_pos c1] at h; exact ⟨h.1, h.2, hM.eq hf⟩⟩, fun ν hJ => ⟨hJ.2.o, _, q_X5_off hJ.2 hW, fun r ν2 h => by obtain ⟨hf, h⟩ := h; rw [if_neg c0, if_pos c1] at h; exact ⟨h.1, _, _, _, _, _, _, _, _, _, _, _, _, _, _, _, _, _, _, _, hJ.1.eq (fun a _ h1 => hf a h1), h.2, hW⟩⟩⟩
  by_cases c2 : ca k g < n
  · exact ⟨-3, fun ν => CV np ns day nr tr fl rg kd nm sg pt ca rs rp rl th la ln ce ν ∧ MV np ns day nr tr fl rg kd nm sg pt ca rs rp rl th la ln ce ν, ⟨_, q_X4_off hC hW, fun r ν h => by obtain ⟨hf, h⟩ := h; rw [if_neg c0, if_neg c1, if_pos c2] at h; exact ⟨h.1, h.2, hM.eq hf⟩⟩, fun ν hJ => ⟨hJ.2.o, _, q_X5_off hJ.2 hW, fun r ν2 h => by obtain ⟨hf, h⟩ := h; rw [if_neg c0, if_neg c1, if_pos c2] at h; exact ⟨h.1, _, _, _, _, _, _, _, _, _, _, _, _, _, _, _, _, _, _, _, hJ.1.eq (fun a _ h1 => hf a h1), h.2, hW⟩⟩⟩
  exact ⟨ca k g - n, fun ν => CV np ns day nr tr fl rg kd nm sg pt (cup ca k (fup (ca k) g (ca k g - n))) rs rp rl th la ln ce ν ∧ MV np ns day nr tr fl rg kd nm sg pt ca rs rp rl th la ln ce ν, ⟨_, q_X4_off hC hW, fun r ν h => by obtain ⟨hf, h⟩ := h; rw [if_neg c0, if_neg c1, if_neg c2] at h; exact ⟨h.1, h.2, hM.eq hf⟩⟩, fun ν hJ => ⟨hJ.2.o, _, q_X5_off hJ.2 hW, fun r ν2 h => by obtain ⟨hf, h⟩ := h; rw [if_neg c0, if_neg c1, if_neg c2] at h; exact ⟨h.1, _, _, _, _, _, _, _, _, _, _, _, _, _, _, _, _, _, _, _, hJ.1.eq (fun a _ h1 => hf a h1), h.2, WF_ca hW (by have := (hW.2.2.2.2.1 k (by omega) (by omega)).2.at (g := g) (by omega) (by omega); omega)⟩⟩⟩

set_option maxHeartbeats 4000000 in
theorem s_voyage {K : KX} {s l i n w : Int} {μ : Int → ME} (hI : INV μ) (hw : rng w) : ∃ (ans : Int) (J : (Int → ME) → Prop), CtE K 7 yX4_voyage cX4_voyage 10 (some .int) [vR 0, vI s, vI l, vI i, vI n, vI w] μ (vI ans) J ∧ ∀ μ', J μ' → (∃ fs, μ' 42 = mO 5 fs) ∧ CtE K 7 yX5_voyage cX5_voyage 10 (some .int) [vR 42, vI s, vI l, vI i, vI n, vI w] μ' (vI ans) INV := by
  obtain ⟨np, ns, day, nr, tr, fl, rg, kd, nm, sg, pt, ca, rs, rp, rl, th, la, ln, ce, hC, hM, hW⟩ := hI
  by_cases c0 : ¬ (0 ≤ s ∧ s < 4)
  · exact ⟨-1, fun ν => CV np ns day nr tr (0) rg kd nm sg pt ca rs rp rl th la ln ce ν ∧ MV np ns day nr tr fl rg kd nm sg pt ca rs rp rl th la ln ce ν, ⟨_, q_X4_voyage hC hW hw, fun r ν h => by obtain ⟨hf, h⟩ := h; rw [if_pos c0] at h; exact ⟨h.1, h.2, hM.eq hf⟩⟩, fun ν hJ => ⟨hJ.2.o, _, q_X5_voyage hJ.2 hW, fun r ν2 h => by obtain ⟨hf, h⟩ := h; rw [if_pos c0] at h; exact ⟨h.1, _, _, _, _, _, _, _, _, _, _, _, _, _, _, _, _, _, _, _, hJ.1.eq (fun a _ h1 => hf a h1), h.2, hW⟩⟩⟩
  by_cases c1 : ¬ ((0 ≤ l ∧ l < 3) ∧ (0 ≤ n ∧ n ≤ 20) ∧ ((0 ≤ w ∧ w ≤ 4) ∨ (10 ≤ w ∧ w < 15)))
  · exact ⟨-2, fun ν => CV np ns day nr tr (0) rg kd nm sg pt ca rs rp rl th la ln ce ν ∧ MV np ns day nr tr fl rg kd nm sg pt ca rs rp rl th la ln ce ν, ⟨_, q_X4_voyage hC hW hw, fun r ν h => by obtain ⟨hf, h⟩ := h; rw [if_neg c0, if_pos c1] at h; exact ⟨h.1, h.2, hM.eq hf⟩⟩, fun ν hJ => ⟨hJ.2.o, _, q_X5_voyage hJ.2 hW, fun r ν2 h => by obtain ⟨hf, h⟩ := h; rw [if_neg c0, if_pos c1] at h; exact ⟨h.1, _, _, _, _, _, _, _, _, _, _, _, _, _, _, _, _, _, _, _, hJ.1.eq (fun a _ h1 => hf a h1), h.2, hW⟩⟩⟩
  by_cases c2 : fot (th s) (la s) (ln s) l i (2 * n) ≠ 0
  · exact ⟨-10 - fot (th s) (la s) (ln s) l i (2 * n), fun ν => CV np ns day nr tr (fot (th s) (la s) (ln s) l i (2 * n)) rg kd nm sg pt ca rs rp rl th la ln ce ν ∧ MV np ns day nr tr fl rg kd nm sg pt ca rs rp rl th la ln ce ν, ⟨_, q_X4_voyage hC hW hw, fun r ν h => by obtain ⟨hf, h⟩ := h; rw [if_neg c0, if_neg c1, if_pos c2] at h; exact ⟨h.1, h.2, hM.eq hf⟩⟩, fun ν hJ => ⟨hJ.2.o, _, q_X5_voyage hJ.2 hW, fun r ν2 h => by obtain ⟨hf, h⟩ := h; rw [if_neg c0, if_neg c1, if_pos c2] at h; exact ⟨h.1, _, _, _, _, _, _, _, _, _, _, _, _, _, _, _, _, _, _, _, hJ.1.eq (fun a _ h1 => hf a h1), h.2, hW⟩⟩⟩
  by_cases c3 : ¬ 0 < ns
  · exact ⟨-3, fun ν => CV np ns day nr tr (0) rg kd nm sg pt ca rs rp rl th la ln ce ν ∧ MV np ns day nr tr fl rg kd nm sg pt ca rs rp rl th la ln ce ν, ⟨_, q_X4_voyage hC hW hw, fun r ν h => by obtain ⟨hf, h⟩ := h; rw [if_neg c0, if_neg c1, if_neg c2, if_pos c3] at h; exact ⟨h.1, h.2, hM.eq hf⟩⟩, fun ν hJ => ⟨hJ.2.o, _, q_X5_voyage hJ.2 hW, fun r ν2 h => by obtain ⟨hf, h⟩ := h; rw [if_neg c0, if_neg c1, if_neg c2, if_pos c3] at h; exact ⟨h.1, _, _, _, _, _, _, _, _, _, _, _, _, _, _, _, _, _, _, _, hJ.1.eq (fun a _ h1 => hf a h1), h.2, hW⟩⟩⟩
  by_cases c4 : rfN (cAt (ln s) (ce s)) i ns 0 n.toNat ≠ 0
  · exact ⟨rfN (cAt (ln s) (ce s)) i ns 0 n.toNat, fun ν => CV np ns day nr tr (0) rg kd nm sg pt ca rs rp rl th la ln ce ν ∧ MV np ns day nr tr fl rg kd nm sg pt ca rs rp rl th la ln ce ν, ⟨_, q_X4_voyage hC hW hw, fun r ν h => by obtain ⟨hf, h⟩ := h; rw [if_neg c0, if_neg c1, if_neg c2, if_neg c3, if_pos c4] at h; exact ⟨h.1, h.2, hM.eq hf⟩⟩, fun ν hJ => ⟨hJ.2.o, _, q_X5_voyage hJ.2 hW, fun r ν2 h => by obtain ⟨hf, h⟩ := h; rw [if_neg c0, if_neg c1, if_neg c2, if_neg c3, if_pos c4] at h; exact ⟨h.1, _, _, _, _, _, _, _, _, _, _, _, _, _, _, _, _, _, _, _, hJ.1.eq (fun a _ h1 => hf a h1), h.2, hW⟩⟩⟩
  exact ⟨vyR w ns nm (vyN (cAt (ln s) (ce s)) i np ns rg kd nm sg 0 (pt, ca, 0, 0, -9) n.toNat), fun ν => CV np ns day nr tr (0) rg kd nm sg pt ca rs rp rl th la ln ce ν ∧ MV np ns day nr tr fl rg kd nm sg pt ca rs rp rl th la ln ce ν, ⟨_, q_X4_voyage hC hW hw, fun r ν h => by obtain ⟨hf, h⟩ := h; rw [if_neg c0, if_neg c1, if_neg c2, if_neg c3, if_neg c4] at h; exact ⟨h.1, h.2, hM.eq hf⟩⟩, fun ν hJ => ⟨hJ.2.o, _, q_X5_voyage hJ.2 hW, fun r ν2 h => by obtain ⟨hf, h⟩ := h; rw [if_neg c0, if_neg c1, if_neg c2, if_neg c3, if_neg c4] at h; exact ⟨h.1, _, _, _, _, _, _, _, _, _, _, _, _, _, _, _, _, _, _, _, hJ.1.eq (fun a _ h1 => hf a h1), h.2, hW⟩⟩⟩

set_option maxHeartbeats 4000000 in
theorem s_keeps {K : KX} {k : Int} {μ : Int → ME} (hI : INV μ) : ∃ (ans : Int) (J : (Int → ME) → Prop), CtE K 7 yX4_keeps cX4_keeps 7 (some .int) [vR 0, vI k] μ (vI ans) J ∧ ∀ μ', J μ' → (∃ fs, μ' 42 = mO 5 fs) ∧ CtE K 7 yX5_keeps cX5_keeps 3 (some .int) [vR 42, vI k] μ' (vI ans) INV := by
  obtain ⟨np, ns, day, nr, tr, fl, rg, kd, nm, sg, pt, ca, rs, rp, rl, th, la, ln, ce, hC, hM, hW⟩ := hI
  by_cases c0 : ¬ (0 ≤ k ∧ k < ns)
  · exact ⟨-1, fun ν => CV np ns day nr tr fl rg kd nm sg pt ca rs rp rl th la ln ce ν ∧ MV np ns day nr tr fl rg kd nm sg pt ca rs rp rl th la ln ce ν, ⟨_, q_X4_keeps hC hW, fun r ν h => by obtain ⟨hf, h⟩ := h; rw [if_pos c0] at h; exact ⟨h.1, h.2, hM.eq hf⟩⟩, fun ν hJ => ⟨hJ.2.o, _, q_X5_keeps hJ.2 hW, fun r ν2 h => by obtain ⟨hf, h⟩ := h; rw [if_pos c0] at h; exact ⟨h.1, _, _, _, _, _, _, _, _, _, _, _, _, _, _, _, _, _, _, _, hJ.1.eq (fun a _ h1 => hf a h1), h.2, hW⟩⟩⟩
  exact ⟨kpT np rg (brg (kd k) (sg k)) (pt k) (ca k (nm k)), fun ν => CV np ns day nr tr fl rg kd nm sg pt ca rs rp rl th la ln ce ν ∧ MV np ns day nr tr fl rg kd nm sg pt ca rs rp rl th la ln ce ν, ⟨_, q_X4_keeps hC hW, fun r ν h => by obtain ⟨hf, h⟩ := h; rw [if_neg c0] at h; exact ⟨h.1, h.2, hM.eq hf⟩⟩, fun ν hJ => ⟨hJ.2.o, _, q_X5_keeps hJ.2 hW, fun r ν2 h => by obtain ⟨hf, h⟩ := h; rw [if_neg c0] at h; exact ⟨h.1, _, _, _, _, _, _, _, _, _, _, _, _, _, _, _, _, _, _, _, hJ.1.eq (fun a _ h1 => hf a h1), h.2, hW⟩⟩⟩

set_option maxHeartbeats 4000000 in
theorem s_harbour {K : KX} {k n w : Int} {μ : Int → ME} (hI : INV μ) : ∃ (ans : Int) (J : (Int → ME) → Prop), CtE K 7 yX4_harbour cX4_harbour 9 (some .int) [vR 0, vI k, vI n, vI w] μ (vI ans) J ∧ ∀ μ', J μ' → (∃ fs, μ' 42 = mO 5 fs) ∧ CtE K 7 yX5_harbour cX5_harbour 8 (some .int) [vR 42, vI k, vI n, vI w] μ' (vI ans) INV := by
  obtain ⟨np, ns, day, nr, tr, fl, rg, kd, nm, sg, pt, ca, rs, rp, rl, th, la, ln, ce, hC, hM, hW⟩ := hI
  by_cases c0 : ¬ (0 ≤ k ∧ k < ns)
  · exact ⟨-1, fun ν => CV np ns day nr tr fl rg kd nm sg pt ca rs rp rl th la ln ce ν ∧ MV np ns day nr tr fl rg kd nm sg pt ca rs rp rl th la ln ce ν, ⟨_, q_X4_harbour hC hW, fun r ν h => by obtain ⟨hf, h⟩ := h; rw [if_pos c0] at h; exact ⟨h.1, h.2, hM.eq hf⟩⟩, fun ν hJ => ⟨hJ.2.o, _, q_X5_harbour hJ.2 hW, fun r ν2 h => by obtain ⟨hf, h⟩ := h; rw [if_pos c0] at h; exact ⟨h.1, _, _, _, _, _, _, _, _, _, _, _, _, _, _, _, _, _, _, _, hJ.1.eq (fun a _ h1 => hf a h1), h.2, hW⟩⟩⟩
  by_cases c1 : ¬ ((0 ≤ n ∧ n ≤ 30) ∧ (0 ≤ w ∧ w ≤ 1))
  · exact ⟨-2, fun ν => CV np ns day nr tr fl rg kd nm sg pt ca rs rp rl th la ln ce ν ∧ MV np ns day nr tr fl rg kd nm sg pt ca rs rp rl th la ln ce ν, ⟨_, q_X4_harbour hC hW, fun r ν h => by obtain ⟨hf, h⟩ := h; rw [if_neg c0, if_pos c1] at h; exact ⟨h.1, h.2, hM.eq hf⟩⟩, fun ν hJ => ⟨hJ.2.o, _, q_X5_harbour hJ.2 hW, fun r ν2 h => by obtain ⟨hf, h⟩ := h; rw [if_neg c0, if_pos c1] at h; exact ⟨h.1, _, _, _, _, _, _, _, _, _, _, _, _, _, _, _, _, _, _, _, hJ.1.eq (fun a _ h1 => hf a h1), h.2, hW⟩⟩⟩
  exact ⟨hbT np w (fun p => wor (los (ca k) (nm k) (rdN rg np (brg (kd k) (sg k)) p n.toNat))), fun ν => CV np ns day nr tr fl rg kd nm sg pt ca rs rp rl th la ln ce ν ∧ MV np ns day nr tr fl rg kd nm sg pt ca rs rp rl th la ln ce ν, ⟨_, q_X4_harbour hC hW, fun r ν h => by obtain ⟨hf, h⟩ := h; rw [if_neg c0, if_neg c1] at h; exact ⟨h.1, h.2, hM.eq hf⟩⟩, fun ν hJ => ⟨hJ.2.o, _, q_X5_harbour hJ.2 hW, fun r ν2 h => by obtain ⟨hf, h⟩ := h; rw [if_neg c0, if_neg c1] at h; exact ⟨h.1, _, _, _, _, _, _, _, _, _, _, _, _, _, _, _, _, _, _, _, hJ.1.eq (fun a _ h1 => hf a h1), h.2, hW⟩⟩⟩

set_option maxHeartbeats 4000000 in
theorem s_stow {K : KX} {k n p w : Int} {μ : Int → ME} (hI : INV μ) (hw : rng w) : ∃ (ans : Int) (J : (Int → ME) → Prop), CtE K 7 yX4_stow cX4_stow 6 (some .int) [vR 0, vI k, vI n, vI p, vI w] μ (vI ans) J ∧ ∀ μ', J μ' → (∃ fs, μ' 42 = mO 5 fs) ∧ CtE K 7 yX5_stow cX5_stow 6 (some .int) [vR 42, vI k, vI n, vI p, vI w] μ' (vI ans) INV := by
  obtain ⟨np, ns, day, nr, tr, fl, rg, kd, nm, sg, pt, ca, rs, rp, rl, th, la, ln, ce, hC, hM, hW⟩ := hI
  by_cases c0 : ¬ (0 ≤ k ∧ k < ns)
  · exact ⟨-1, fun ν => CV np ns day nr tr fl rg kd nm sg pt ca rs rp rl th la ln ce ν ∧ MV np ns day nr tr fl rg kd nm sg pt ca rs rp rl th la ln ce ν, ⟨_, q_X4_stow hC hW hw, fun r ν h => by obtain ⟨hf, h⟩ := h; rw [if_pos c0] at h; exact ⟨h.1, h.2, hM.eq hf⟩⟩, fun ν hJ => ⟨hJ.2.o, _, q_X5_stow hJ.2 hW, fun r ν2 h => by obtain ⟨hf, h⟩ := h; rw [if_pos c0] at h; exact ⟨h.1, _, _, _, _, _, _, _, _, _, _, _, _, _, _, _, _, _, _, _, hJ.1.eq (fun a _ h1 => hf a h1), h.2, hW⟩⟩⟩
  by_cases c1 : ¬ (((0 ≤ n ∧ n ≤ 30) ∧ (0 ≤ p ∧ p ≤ 12)) ∧ ((0 ≤ w ∧ w ≤ 1) ∨ (10 ≤ w ∧ w < 14)))
  · exact ⟨-2, fun ν => CV np ns day nr tr fl rg kd nm sg pt ca rs rp rl th la ln ce ν ∧ MV np ns day nr tr fl rg kd nm sg pt ca rs rp rl th la ln ce ν, ⟨_, q_X4_stow hC hW hw, fun r ν h => by obtain ⟨hf, h⟩ := h; rw [if_neg c0, if_pos c1] at h; exact ⟨h.1, h.2, hM.eq hf⟩⟩, fun ν hJ => ⟨hJ.2.o, _, q_X5_stow hJ.2 hW, fun r ν2 h => by obtain ⟨hf, h⟩ := h; rw [if_neg c0, if_pos c1] at h; exact ⟨h.1, _, _, _, _, _, _, _, _, _, _, _, _, _, _, _, _, _, _, _, hJ.1.eq (fun a _ h1 => hf a h1), h.2, hW⟩⟩⟩
  exact ⟨swT w (chA p (nm k) (rdN rg np (brg (kd k) (sg k)) (pt k) n.toNat) 0 none ((if 9 < p then 9 else p) + 1).toNat), fun ν => CV np ns day nr tr fl rg kd nm sg pt ca rs rp rl th la ln ce ν ∧ MV np ns day nr tr fl rg kd nm sg pt ca rs rp rl th la ln ce ν, ⟨_, q_X4_stow hC hW hw, fun r ν h => by obtain ⟨hf, h⟩ := h; rw [if_neg c0, if_neg c1] at h; exact ⟨h.1, h.2, hM.eq hf⟩⟩, fun ν hJ => ⟨hJ.2.o, _, q_X5_stow hJ.2 hW, fun r ν2 h => by obtain ⟨hf, h⟩ := h; rw [if_neg c0, if_neg c1] at h; exact ⟨h.1, _, _, _, _, _, _, _, _, _, _, _, _, _, _, _, _, _, _, _, hJ.1.eq (fun a _ h1 => hf a h1), h.2, hW⟩⟩⟩

set_option maxHeartbeats 4000000 in
theorem s_cover {K : KX} {μ : Int → ME} (hI : INV μ) : ∃ (ans : Int) (J : (Int → ME) → Prop), CtE K 7 yX4_cover cX4_cover 5 (some .int) [vR 0] μ (vI ans) J ∧ ∀ μ', J μ' → (∃ fs, μ' 42 = mO 5 fs) ∧ CtE K 7 yX5_cover cX5_cover 4 (some .int) [vR 42] μ' (vI ans) INV := by
  obtain ⟨np, ns, day, nr, tr, fl, rg, kd, nm, sg, pt, ca, rs, rp, rl, th, la, ln, ce, hC, hM, hW⟩ := hI
  by_cases c0 : ¬ 0 < ns
  · exact ⟨-3, fun ν => CV np ns day nr tr fl rg kd nm sg pt ca rs rp rl th la ln ce ν ∧ MV np ns day nr tr fl rg kd nm sg pt ca rs rp rl th la ln ce ν, ⟨_, q_X4_cover hC hW, fun r ν h => by obtain ⟨hf, h⟩ := h; rw [if_pos c0] at h; exact ⟨h.1, h.2, hM.eq hf⟩⟩, fun ν hJ => ⟨hJ.2.o, _, q_X5_cover hJ.2 hW, fun r ν2 h => by obtain ⟨hf, h⟩ := h; rw [if_pos c0] at h; exact ⟨h.1, _, _, _, _, _, _, _, _, _, _, _, _, _, _, _, _, _, _, _, hJ.1.eq (fun a _ h1 => hf a h1), h.2, hW⟩⟩⟩
  exact ⟨(coN nm 0 0 0 ns.toNat), fun ν => CV np ns day nr tr fl rg kd nm sg pt ca rs rp rl th la ln ce ν ∧ MV np ns day nr tr fl rg kd nm sg pt ca rs rp rl th la ln ce ν, ⟨_, q_X4_cover hC hW, fun r ν h => by obtain ⟨hf, h⟩ := h; rw [if_neg c0] at h; exact ⟨h.1, h.2, hM.eq hf⟩⟩, fun ν hJ => ⟨hJ.2.o, _, q_X5_cover hJ.2 hW, fun r ν2 h => by obtain ⟨hf, h⟩ := h; rw [if_neg c0] at h; exact ⟨h.1, _, _, _, _, _, _, _, _, _, _, _, _, _, _, _, _, _, _, _, hJ.1.eq (fun a _ h1 => hf a h1), h.2, hW⟩⟩⟩

set_option maxHeartbeats 4000000 in
theorem s_reading {K : KX} {k p x : Int} {μ : Int → ME} (hI : INV μ) : ∃ (ans : Int) (J : (Int → ME) → Prop), CtE K 7 yX4_reading cX4_reading 4 (some .int) [vR 0, vI k, vI p, vI x] μ (vI ans) J ∧ ∀ μ', J μ' → (∃ fs, μ' 42 = mO 5 fs) ∧ CtE K 7 yX5_reading cX5_reading 4 (some .int) [vR 42, vI k, vI p, vI x] μ' (vI ans) INV := by
  obtain ⟨np, ns, day, nr, tr, fl, rg, kd, nm, sg, pt, ca, rs, rp, rl, th, la, ln, ce, hC, hM, hW⟩ := hI
  by_cases c0 : ¬ ((0 ≤ k ∧ k < ns) ∧ (0 ≤ p ∧ p < np))
  · exact ⟨-1, fun ν => CV np ns day nr tr fl rg kd nm sg pt ca rs rp rl th la ln ce ν ∧ MV np ns day nr tr fl rg kd nm sg pt ca rs rp rl th la ln ce ν, ⟨_, q_X4_reading hC hW, fun r ν h => by obtain ⟨hf, h⟩ := h; rw [if_pos c0] at h; exact ⟨h.1, h.2, hM.eq hf⟩⟩, fun ν hJ => ⟨hJ.2.o, _, q_X5_reading hJ.2 hW, fun r ν2 h => by obtain ⟨hf, h⟩ := h; rw [if_pos c0] at h; exact ⟨h.1, _, _, _, _, _, _, _, _, _, _, _, _, _, _, _, _, _, _, _, hJ.1.eq (fun a _ h1 => hf a h1), h.2, hW⟩⟩⟩
  by_cases c1 : ¬ (0 ≤ x ∧ x ≤ 1)
  · exact ⟨-2, fun ν => CV np ns day nr tr fl rg kd nm sg pt ca rs rp rl th la ln ce ν ∧ MV np ns day nr tr fl rg kd nm sg pt ca rs rp rl th la ln ce ν, ⟨_, q_X4_reading hC hW, fun r ν h => by obtain ⟨hf, h⟩ := h; rw [if_neg c0, if_pos c1] at h; exact ⟨h.1, h.2, hM.eq hf⟩⟩, fun ν hJ => ⟨hJ.2.o, _, q_X5_reading hJ.2 hW, fun r ν2 h => by obtain ⟨hf, h⟩ := h; rw [if_neg c0, if_pos c1] at h; exact ⟨h.1, _, _, _, _, _, _, _, _, _, _, _, _, _, _, _, _, _, _, _, hJ.1.eq (fun a _ h1 => hf a h1), h.2, hW⟩⟩⟩
  by_cases c2 : 8 ≤ nr
  · exact ⟨-4, fun ν => CV np ns day nr tr fl rg kd nm sg pt ca rs rp rl th la ln ce ν ∧ MV np ns day nr tr fl rg kd nm sg pt ca rs rp rl th la ln ce ν, ⟨_, q_X4_reading hC hW, fun r ν h => by obtain ⟨hf, h⟩ := h; rw [if_neg c0, if_neg c1, if_pos c2] at h; exact ⟨h.1, h.2, hM.eq hf⟩⟩, fun ν hJ => ⟨hJ.2.o, _, q_X5_reading hJ.2 hW, fun r ν2 h => by obtain ⟨hf, h⟩ := h; rw [if_neg c0, if_neg c1, if_pos c2] at h; exact ⟨h.1, _, _, _, _, _, _, _, _, _, _, _, _, _, _, _, _, _, _, _, hJ.1.eq (fun a _ h1 => hf a h1), h.2, hW⟩⟩⟩
  exact ⟨nr, fun ν => CV np ns day (nr + 1) tr fl rg kd nm sg pt ca (fup rs nr k) (fup rp nr p) (fup rl nr x) th la ln ce ν ∧ MV np ns day nr tr fl rg kd nm sg pt ca rs rp rl th la ln ce ν, ⟨_, q_X4_reading hC hW, fun r ν h => by obtain ⟨hf, h⟩ := h; rw [if_neg c0, if_neg c1, if_neg c2] at h; exact ⟨h.1, h.2, hM.eq hf⟩⟩, fun ν hJ => ⟨hJ.2.o, _, q_X5_reading hJ.2 hW, fun r ν2 h => by obtain ⟨hf, h⟩ := h; rw [if_neg c0, if_neg c1, if_neg c2] at h; exact ⟨h.1, _, _, _, _, _, _, _, _, _, _, _, _, _, _, _, _, _, _, _, hJ.1.eq (fun a _ h1 => hf a h1), h.2, WF_rd hW (by omega) (by omega) (by omega) c2⟩⟩⟩

set_option maxHeartbeats 4000000 in
theorem s_back {K : KX} {k : Int} {μ : Int → ME} (hI : INV μ) : ∃ (ans : Int) (J : (Int → ME) → Prop), CtE K 7 yX4_back cX4_back 2 (some .int) [vR 0, vI k] μ (vI ans) J ∧ ∀ μ', J μ' → (∃ fs, μ' 42 = mO 5 fs) ∧ CtE K 7 yX5_back cX5_back 2 (some .int) [vR 42, vI k] μ' (vI ans) INV := by
  obtain ⟨np, ns, day, nr, tr, fl, rg, kd, nm, sg, pt, ca, rs, rp, rl, th, la, ln, ce, hC, hM, hW⟩ := hI
  by_cases c0 : ¬ (0 ≤ k ∧ k ≤ nr)
  · exact ⟨-2, fun ν => CV np ns day nr tr fl rg kd nm sg pt ca rs rp rl th la ln ce ν ∧ MV np ns day nr tr fl rg kd nm sg pt ca rs rp rl th la ln ce ν, ⟨_, q_X4_back hC hW, fun r ν h => by obtain ⟨hf, h⟩ := h; rw [if_pos c0] at h; exact ⟨h.1, h.2, hM.eq hf⟩⟩, fun ν hJ => ⟨hJ.2.o, _, q_X5_back hJ.2 hW, fun r ν2 h => by obtain ⟨hf, h⟩ := h; rw [if_pos c0] at h; exact ⟨h.1, _, _, _, _, _, _, _, _, _, _, _, _, _, _, _, _, _, _, _, hJ.1.eq (fun a _ h1 => hf a h1), h.2, hW⟩⟩⟩
  exact ⟨nr - k, fun ν => CV np ns day (nr - k) tr fl rg kd nm sg pt ca rs rp rl th la ln ce ν ∧ MV np ns day nr tr fl rg kd nm sg pt ca rs rp rl th la ln ce ν, ⟨_, q_X4_back hC hW, fun r ν h => by obtain ⟨hf, h⟩ := h; rw [if_neg c0] at h; exact ⟨h.1, h.2, hM.eq hf⟩⟩, fun ν hJ => ⟨hJ.2.o, _, q_X5_back hJ.2 hW, fun r ν2 h => by obtain ⟨hf, h⟩ := h; rw [if_neg c0] at h; exact ⟨h.1, _, _, _, _, _, _, _, _, _, _, _, _, _, _, _, _, _, _, _, hJ.1.eq (fun a _ h1 => hf a h1), h.2, WF_bk hW (by omega)⟩⟩⟩

set_option maxHeartbeats 4000000 in
theorem s_strengths {K : KX} {k : Int} {μ : Int → ME} (hI : INV μ) : ∃ (ans : Int) (J : (Int → ME) → Prop), CtE K 7 yX4_strengths cX4_strengths 4 (some .int) [vR 0, vI k] μ (vI ans) J ∧ ∀ μ', J μ' → (∃ fs, μ' 42 = mO 5 fs) ∧ CtE K 7 yX5_strengths cX5_strengths 5 (some .int) [vR 42, vI k] μ' (vI ans) INV := by
  obtain ⟨np, ns, day, nr, tr, fl, rg, kd, nm, sg, pt, ca, rs, rp, rl, th, la, ln, ce, hC, hM, hW⟩ := hI
  by_cases c0 : ¬ (0 ≤ k ∧ k < ns)
  · exact ⟨-1, fun ν => CV np ns day nr tr fl rg kd nm sg pt ca rs rp rl th la ln ce ν ∧ MV np ns day nr tr fl rg kd nm sg pt ca rs rp rl th la ln ce ν, ⟨_, q_X4_strengths hC hW, fun r ν h => by obtain ⟨hf, h⟩ := h; rw [if_pos c0] at h; exact ⟨h.1, h.2, hM.eq hf⟩⟩, fun ν hJ => ⟨hJ.2.o, _, q_X5_strengths hJ.2 hW, fun r ν2 h => by obtain ⟨hf, h⟩ := h; rw [if_pos c0] at h; exact ⟨h.1, _, _, _, _, _, _, _, _, _, _, _, _, _, _, _, _, _, _, _, hJ.1.eq (fun a _ h1 => hf a h1), h.2, hW⟩⟩⟩
  exact ⟨orN (fun v => soN (brK k (brg (kd k) v) rs kd sg) rg rp rl 0 nr.toNat = 1) 0 0 10, fun ν => CV np ns day nr tr fl rg kd nm sg pt ca rs rp rl th la ln ce ν ∧ MV np ns day nr tr fl rg kd nm sg pt ca rs rp rl th la ln ce ν, ⟨_, q_X4_strengths hC hW, fun r ν h => by obtain ⟨hf, h⟩ := h; rw [if_neg c0] at h; exact ⟨h.1, h.2, hM.eq hf⟩⟩, fun ν hJ => ⟨hJ.2.o, _, q_X5_strengths hJ.2 hW, fun r ν2 h => by obtain ⟨hf, h⟩ := h; rw [if_neg c0] at h; exact ⟨h.1, _, _, _, _, _, _, _, _, _, _, _, _, _, _, _, _, _, _, _, hJ.1.eq (fun a _ h1 => hf a h1), h.2, hW⟩⟩⟩

set_option maxHeartbeats 4000000 in
theorem s_kinds {K : KX} {k : Int} {μ : Int → ME} (hI : INV μ) : ∃ (ans : Int) (J : (Int → ME) → Prop), CtE K 7 yX4_kinds cX4_kinds 4 (some .int) [vR 0, vI k] μ (vI ans) J ∧ ∀ μ', J μ' → (∃ fs, μ' 42 = mO 5 fs) ∧ CtE K 7 yX5_kinds cX5_kinds 5 (some .int) [vR 42, vI k] μ' (vI ans) INV := by
  obtain ⟨np, ns, day, nr, tr, fl, rg, kd, nm, sg, pt, ca, rs, rp, rl, th, la, ln, ce, hC, hM, hW⟩ := hI
  by_cases c0 : ¬ (0 ≤ k ∧ k < ns)
  · exact ⟨-1, fun ν => CV np ns day nr tr fl rg kd nm sg pt ca rs rp rl th la ln ce ν ∧ MV np ns day nr tr fl rg kd nm sg pt ca rs rp rl th la ln ce ν, ⟨_, q_X4_kinds hC hW, fun r ν h => by obtain ⟨hf, h⟩ := h; rw [if_pos c0] at h; exact ⟨h.1, h.2, hM.eq hf⟩⟩, fun ν hJ => ⟨hJ.2.o, _, q_X5_kinds hJ.2 hW, fun r ν2 h => by obtain ⟨hf, h⟩ := h; rw [if_pos c0] at h; exact ⟨h.1, _, _, _, _, _, _, _, _, _, _, _, _, _, _, _, _, _, _, _, hJ.1.eq (fun a _ h1 => hf a h1), h.2, hW⟩⟩⟩
  exact ⟨orN (fun v => soN (brK k (brg v (sg k)) rs kd sg) rg rp rl 0 nr.toNat = 1) 0 0 3, fun ν => CV np ns day nr tr fl rg kd nm sg pt ca rs rp rl th la ln ce ν ∧ MV np ns day nr tr fl rg kd nm sg pt ca rs rp rl th la ln ce ν, ⟨_, q_X4_kinds hC hW, fun r ν h => by obtain ⟨hf, h⟩ := h; rw [if_neg c0] at h; exact ⟨h.1, h.2, hM.eq hf⟩⟩, fun ν hJ => ⟨hJ.2.o, _, q_X5_kinds hJ.2 hW, fun r ν2 h => by obtain ⟨hf, h⟩ := h; rw [if_neg c0] at h; exact ⟨h.1, _, _, _, _, _, _, _, _, _, _, _, _, _, _, _, _, _, _, _, hJ.1.eq (fun a _ h1 => hf a h1), h.2, hW⟩⟩⟩

set_option maxHeartbeats 4000000 in
theorem s_names {K : KX} {s l i k n : Int} {μ : Int → ME} (hI : INV μ) : ∃ (ans : Int) (J : (Int → ME) → Prop), CtE K 7 yX4_names cX4_names 12 (some .int) [vR 0, vI s, vI l, vI i, vI k, vI n] μ (vI ans) J ∧ ∀ μ', J μ' → (∃ fs, μ' 42 = mO 5 fs) ∧ CtE K 7 yX5_names cX5_names 10 (some .int) [vR 42, vI s, vI l, vI i, vI k, vI n] μ' (vI ans) INV := by
  obtain ⟨np, ns, day, nr, tr, fl, rg, kd, nm, sg, pt, ca, rs, rp, rl, th, la, ln, ce, hC, hM, hW⟩ := hI
  by_cases c0 : ¬ ((0 ≤ s ∧ s < 4) ∧ (0 ≤ k ∧ k < ns))
  · exact ⟨-1, fun ν => CV np ns day nr tr (0) rg kd nm sg pt ca rs rp rl th la ln ce ν ∧ MV np ns day nr tr fl rg kd nm sg pt ca rs rp rl th la ln ce ν, ⟨_, q_X4_names hC hW, fun r ν h => by obtain ⟨hf, h⟩ := h; rw [if_pos c0] at h; exact ⟨h.1, h.2, hM.eq hf⟩⟩, fun ν hJ => ⟨hJ.2.o, _, q_X5_names hJ.2 hW, fun r ν2 h => by obtain ⟨hf, h⟩ := h; rw [if_pos c0] at h; exact ⟨h.1, _, _, _, _, _, _, _, _, _, _, _, _, _, _, _, _, _, _, _, hJ.1.eq (fun a _ h1 => hf a h1), h.2, hW⟩⟩⟩
  by_cases c1 : ¬ ((0 ≤ l ∧ l < 3) ∧ (0 ≤ n ∧ n ≤ 30))
  · exact ⟨-2, fun ν => CV np ns day nr tr (0) rg kd nm sg pt ca rs rp rl th la ln ce ν ∧ MV np ns day nr tr fl rg kd nm sg pt ca rs rp rl th la ln ce ν, ⟨_, q_X4_names hC hW, fun r ν h => by obtain ⟨hf, h⟩ := h; rw [if_neg c0, if_pos c1] at h; exact ⟨h.1, h.2, hM.eq hf⟩⟩, fun ν hJ => ⟨hJ.2.o, _, q_X5_names hJ.2 hW, fun r ν2 h => by obtain ⟨hf, h⟩ := h; rw [if_neg c0, if_pos c1] at h; exact ⟨h.1, _, _, _, _, _, _, _, _, _, _, _, _, _, _, _, _, _, _, _, hJ.1.eq (fun a _ h1 => hf a h1), h.2, hW⟩⟩⟩
  by_cases c2 : fot (th s) (la s) (ln s) l i 4 ≠ 0
  · exact ⟨-10 - fot (th s) (la s) (ln s) l i 4, fun ν => CV np ns day nr tr (fot (th s) (la s) (ln s) l i 4) rg kd nm sg pt ca rs rp rl th la ln ce ν ∧ MV np ns day nr tr fl rg kd nm sg pt ca rs rp rl th la ln ce ν, ⟨_, q_X4_names hC hW, fun r ν h => by obtain ⟨hf, h⟩ := h; rw [if_neg c0, if_neg c1, if_pos c2] at h; exact ⟨h.1, h.2, hM.eq hf⟩⟩, fun ν hJ => ⟨hJ.2.o, _, q_X5_names hJ.2 hW, fun r ν2 h => by obtain ⟨hf, h⟩ := h; rw [if_neg c0, if_neg c1, if_pos c2] at h; exact ⟨h.1, _, _, _, _, _, _, _, _, _, _, _, _, _, _, _, _, _, _, _, hJ.1.eq (fun a _ h1 => hf a h1), h.2, hW⟩⟩⟩
  exact ⟨orN (fun v => nmP (cAt (ln s) (ce s)) i (los (ca k) v (rdN rg np (brg (kd k) (sg k)) (pt k) n.toNat))) 0 0 4, fun ν => CV np ns day nr tr (0) rg kd nm sg pt ca rs rp rl th la ln ce ν ∧ MV np ns day nr tr fl rg kd nm sg pt ca rs rp rl th la ln ce ν, ⟨_, q_X4_names hC hW, fun r ν h => by obtain ⟨hf, h⟩ := h; rw [if_neg c0, if_neg c1, if_neg c2] at h; exact ⟨h.1, h.2, hM.eq hf⟩⟩, fun ν hJ => ⟨hJ.2.o, _, q_X5_names hJ.2 hW, fun r ν2 h => by obtain ⟨hf, h⟩ := h; rw [if_neg c0, if_neg c1, if_neg c2] at h; exact ⟨h.1, _, _, _, _, _, _, _, _, _, _, _, _, _, _, _, _, _, _, _, hJ.1.eq (fun a _ h1 => hf a h1), h.2, hW⟩⟩⟩

set_option maxHeartbeats 4000000 in
theorem s_odds {K : KX} {k g w : Int} {μ : Int → ME} (hI : INV μ) : ∃ (ans : Int) (J : (Int → ME) → Prop), CtE K 7 yX4_odds cX4_odds 6 (some .long) [vR 0, vI k, vI g, vI w] μ (vL ans) J ∧ ∀ μ', J μ' → (∃ fs, μ' 42 = mO 5 fs) ∧ CtE K 7 yX5_odds cX5_odds 4 (some .long) [vR 42, vI k, vI g, vI w] μ' (vL ans) INV := by
  obtain ⟨np, ns, day, nr, tr, fl, rg, kd, nm, sg, pt, ca, rs, rp, rl, th, la, ln, ce, hC, hM, hW⟩ := hI
  by_cases c0 : ¬ ((0 ≤ k ∧ k < ns) ∧ (0 ≤ g ∧ g < 4) ∧ (0 ≤ w ∧ w ≤ 1))
  · exact ⟨-9223372036854775808, fun ν => CV np ns day nr tr fl rg kd nm sg pt ca rs rp rl th la ln ce ν ∧ MV np ns day nr tr fl rg kd nm sg pt ca rs rp rl th la ln ce ν, ⟨_, q_X4_odds hC hW, fun r ν h => by obtain ⟨hf, h⟩ := h; rw [if_pos c0] at h; exact ⟨h.1, h.2, hM.eq hf⟩⟩, fun ν hJ => ⟨hJ.2.o, _, q_X5_odds hJ.2 hW, fun r ν2 h => by obtain ⟨hf, h⟩ := h; rw [if_pos c0] at h; exact ⟨h.1, _, _, _, _, _, _, _, _, _, _, _, _, _, _, _, _, _, _, _, hJ.1.eq (fun a _ h1 => hf a h1), h.2, hW⟩⟩⟩
  exact ⟨shT (if gtg (ca k) (nm k) = g then rdN rg np (brg (kd k) (sg k)) 0 np.toNat else 0) np w, fun ν => CV np ns day nr tr fl rg kd nm sg pt ca rs rp rl th la ln ce ν ∧ MV np ns day nr tr fl rg kd nm sg pt ca rs rp rl th la ln ce ν, ⟨_, q_X4_odds hC hW, fun r ν h => by obtain ⟨hf, h⟩ := h; rw [if_neg c0] at h; exact ⟨h.1, h.2, hM.eq hf⟩⟩, fun ν hJ => ⟨hJ.2.o, _, q_X5_odds hJ.2 hW, fun r ν2 h => by obtain ⟨hf, h⟩ := h; rw [if_neg c0] at h; exact ⟨h.1, _, _, _, _, _, _, _, _, _, _, _, _, _, _, _, _, _, _, _, hJ.1.eq (fun a _ h1 => hf a h1), h.2, hW⟩⟩⟩

set_option maxHeartbeats 4000000 in
theorem s_premium {K : KX} {k w : Int} {μ : Int → ME} (hI : INV μ) : ∃ (ans : Int) (J : (Int → ME) → Prop), CtE K 7 yX4_premium cX4_premium 6 (some .long) [vR 0, vI k, vI w] μ (vL ans) J ∧ ∀ μ', J μ' → (∃ fs, μ' 42 = mO 5 fs) ∧ CtE K 7 yX5_premium cX5_premium 4 (some .long) [vR 42, vI k, vI w] μ' (vL ans) INV := by
  obtain ⟨np, ns, day, nr, tr, fl, rg, kd, nm, sg, pt, ca, rs, rp, rl, th, la, ln, ce, hC, hM, hW⟩ := hI
  by_cases c0 : ¬ ((0 ≤ k ∧ k < ns) ∧ (0 ≤ w ∧ w ≤ 1))
  · exact ⟨-9223372036854775808, fun ν => CV np ns day nr tr fl rg kd nm sg pt ca rs rp rl th la ln ce ν ∧ MV np ns day nr tr fl rg kd nm sg pt ca rs rp rl th la ln ce ν, ⟨_, q_X4_premium hC hW, fun r ν h => by obtain ⟨hf, h⟩ := h; rw [if_pos c0] at h; exact ⟨h.1, h.2, hM.eq hf⟩⟩, fun ν hJ => ⟨hJ.2.o, _, q_X5_premium hJ.2 hW, fun r ν2 h => by obtain ⟨hf, h⟩ := h; rw [if_pos c0] at h; exact ⟨h.1, _, _, _, _, _, _, _, _, _, _, _, _, _, _, _, _, _, _, _, hJ.1.eq (fun a _ h1 => hf a h1), h.2, hW⟩⟩⟩
  exact ⟨shT (if gtg (ca k) (nm k) = -9 then 0 else rdN rg np (brg (kd k) (sg k)) 0 np.toNat * (gtg (ca k) (nm k) + 1)) np w, fun ν => CV np ns day nr tr fl rg kd nm sg pt ca rs rp rl th la ln ce ν ∧ MV np ns day nr tr fl rg kd nm sg pt ca rs rp rl th la ln ce ν, ⟨_, q_X4_premium hC hW, fun r ν h => by obtain ⟨hf, h⟩ := h; rw [if_neg c0] at h; exact ⟨h.1, h.2, hM.eq hf⟩⟩, fun ν hJ => ⟨hJ.2.o, _, q_X5_premium hJ.2 hW, fun r ν2 h => by obtain ⟨hf, h⟩ := h; rw [if_neg c0] at h; exact ⟨h.1, _, _, _, _, _, _, _, _, _, _, _, _, _, _, _, _, _, _, _, hJ.1.eq (fun a _ h1 => hf a h1), h.2, hW⟩⟩⟩

set_option maxHeartbeats 4000000 in
theorem s_sheet {K : KX} {k l n : Int} {μ : Int → ME} (hI : INV μ) : ∃ (ans : Int) (J : (Int → ME) → Prop), CtE K 7 yX4_sheet cX4_sheet 4 (some .int) [vR 0, vI k, vI l, vI n] μ (vI ans) J ∧ ∀ μ', J μ' → (∃ fs, μ' 42 = mO 5 fs) ∧ CtE K 7 yX5_sheet cX5_sheet 5 (some .int) [vR 42, vI k, vI l, vI n] μ' (vI ans) INV := by
  obtain ⟨np, ns, day, nr, tr, fl, rg, kd, nm, sg, pt, ca, rs, rp, rl, th, la, ln, ce, hC, hM, hW⟩ := hI
  by_cases c0 : ¬ (0 ≤ k ∧ k < 4)
  · exact ⟨-1, fun ν => CV np ns day nr tr (0) rg kd nm sg pt ca rs rp rl th la ln ce ν ∧ MV np ns day nr tr fl rg kd nm sg pt ca rs rp rl th la ln ce ν, ⟨_, q_X4_sheet hC hW, fun r ν h => by obtain ⟨hf, h⟩ := h; rw [if_pos c0] at h; exact ⟨h.1, h.2, hM.eq hf⟩⟩, fun ν hJ => ⟨hJ.2.o, _, q_X5_sheet hJ.2 hW, fun r ν2 h => by obtain ⟨hf, h⟩ := h; rw [if_pos c0] at h; exact ⟨h.1, _, _, _, _, _, _, _, _, _, _, _, _, _, _, _, _, _, _, _, hJ.1.eq (fun a _ h1 => hf a h1), h.2, hW⟩⟩⟩
  by_cases c1 : ¬ ((0 ≤ l ∧ l < 3) ∧ n ≤ 60)
  · exact ⟨-2, fun ν => CV np ns day nr tr (0) rg kd nm sg pt ca rs rp rl th la ln ce ν ∧ MV np ns day nr tr fl rg kd nm sg pt ca rs rp rl th la ln ce ν, ⟨_, q_X4_sheet hC hW, fun r ν h => by obtain ⟨hf, h⟩ := h; rw [if_neg c0, if_pos c1] at h; exact ⟨h.1, h.2, hM.eq hf⟩⟩, fun ν hJ => ⟨hJ.2.o, _, q_X5_sheet hJ.2 hW, fun r ν2 h => by obtain ⟨hf, h⟩ := h; rw [if_neg c0, if_pos c1] at h; exact ⟨h.1, _, _, _, _, _, _, _, _, _, _, _, _, _, _, _, _, _, _, _, hJ.1.eq (fun a _ h1 => hf a h1), h.2, hW⟩⟩⟩
  by_cases c2 : n < 0
  · exact ⟨-14, fun ν => CV np ns day nr tr (4) rg kd nm sg pt ca rs rp rl th la ln ce ν ∧ MV np ns day nr tr fl rg kd nm sg pt ca rs rp rl th la ln ce ν, ⟨_, q_X4_sheet hC hW, fun r ν h => by obtain ⟨hf, h⟩ := h; rw [if_neg c0, if_neg c1, if_pos c2] at h; exact ⟨h.1, h.2, hM.eq hf⟩⟩, fun ν hJ => ⟨hJ.2.o, _, q_X5_sheet hJ.2 hW, fun r ν2 h => by obtain ⟨hf, h⟩ := h; rw [if_neg c0, if_neg c1, if_pos c2] at h; exact ⟨h.1, _, _, _, _, _, _, _, _, _, _, _, _, _, _, _, _, _, _, _, hJ.1.eq (fun a _ h1 => hf a h1), h.2, hW⟩⟩⟩
  exact ⟨1, fun ν => CV np ns day nr tr (0) rg kd nm sg pt ca rs rp rl (fup th k 1) (fup la k l) (fup ln k n) (cup ce k (fz (ce k) n)) ν ∧ MV np ns day nr tr fl rg kd nm sg pt ca rs rp rl th la ln ce ν, ⟨_, q_X4_sheet hC hW, fun r ν h => by obtain ⟨hf, h⟩ := h; rw [if_neg c0, if_neg c1, if_neg c2] at h; exact ⟨h.1, h.2, hM.eq hf⟩⟩, fun ν hJ => ⟨hJ.2.o, _, q_X5_sheet hJ.2 hW, fun r ν2 h => by obtain ⟨hf, h⟩ := h; rw [if_neg c0, if_neg c1, if_neg c2] at h; exact ⟨h.1, _, _, _, _, _, _, _, _, _, _, _, _, _, _, _, _, _, _, _, hJ.1.eq (fun a _ h1 => hf a h1), h.2, WF_sh hW (by omega) (by omega)⟩⟩⟩

set_option maxHeartbeats 4000000 in
theorem s_lose {K : KX} {k : Int} {μ : Int → ME} (hI : INV μ) : ∃ (ans : Int) (J : (Int → ME) → Prop), CtE K 7 yX4_lose cX4_lose 3 (some .int) [vR 0, vI k] μ (vI ans) J ∧ ∀ μ', J μ' → (∃ fs, μ' 42 = mO 5 fs) ∧ CtE K 7 yX5_lose cX5_lose 3 (some .int) [vR 42, vI k] μ' (vI ans) INV := by
  obtain ⟨np, ns, day, nr, tr, fl, rg, kd, nm, sg, pt, ca, rs, rp, rl, th, la, ln, ce, hC, hM, hW⟩ := hI
  by_cases c0 : ¬ (0 ≤ k ∧ k < 4)
  · exact ⟨-1, fun ν => CV np ns day nr tr fl rg kd nm sg pt ca rs rp rl th la ln ce ν ∧ MV np ns day nr tr fl rg kd nm sg pt ca rs rp rl th la ln ce ν, ⟨_, q_X4_lose hC hW, fun r ν h => by obtain ⟨hf, h⟩ := h; rw [if_pos c0] at h; exact ⟨h.1, h.2, hM.eq hf⟩⟩, fun ν hJ => ⟨hJ.2.o, _, q_X5_lose hJ.2 hW, fun r ν2 h => by obtain ⟨hf, h⟩ := h; rw [if_pos c0] at h; exact ⟨h.1, _, _, _, _, _, _, _, _, _, _, _, _, _, _, _, _, _, _, _, hJ.1.eq (fun a _ h1 => hf a h1), h.2, hW⟩⟩⟩
  exact ⟨th k, fun ν => CV np ns day nr tr fl rg kd nm sg pt ca rs rp rl (fup th k 0) la ln ce ν ∧ MV np ns day nr tr fl rg kd nm sg pt ca rs rp rl th la ln ce ν, ⟨_, q_X4_lose hC hW, fun r ν h => by obtain ⟨hf, h⟩ := h; rw [if_neg c0] at h; exact ⟨h.1, h.2, hM.eq hf⟩⟩, fun ν hJ => ⟨hJ.2.o, _, q_X5_lose hJ.2 hW, fun r ν2 h => by obtain ⟨hf, h⟩ := h; rw [if_neg c0] at h; exact ⟨h.1, _, _, _, _, _, _, _, _, _, _, _, _, _, _, _, _, _, _, _, hJ.1.eq (fun a _ h1 => hf a h1), h.2, WF_lo hW⟩⟩⟩

set_option maxHeartbeats 4000000 in
theorem s_put {K : KX} {k i v : Int} {μ : Int → ME} (hI : INV μ) : ∃ (ans : Int) (J : (Int → ME) → Prop), CtE K 7 yX4_put cX4_put 5 (some .int) [vR 0, vI k, vI i, vI v] μ (vI ans) J ∧ ∀ μ', J μ' → (∃ fs, μ' 42 = mO 5 fs) ∧ CtE K 7 yX5_put cX5_put 4 (some .int) [vR 42, vI k, vI i, vI v] μ' (vI ans) INV := by
  obtain ⟨np, ns, day, nr, tr, fl, rg, kd, nm, sg, pt, ca, rs, rp, rl, th, la, ln, ce, hC, hM, hW⟩ := hI
  by_cases c0 : ¬ (0 ≤ k ∧ k < 4)
  · exact ⟨-1, fun ν => CV np ns day nr tr (0) rg kd nm sg pt ca rs rp rl th la ln ce ν ∧ MV np ns day nr tr fl rg kd nm sg pt ca rs rp rl th la ln ce ν, ⟨_, q_X4_put hC hW, fun r ν h => by obtain ⟨hf, h⟩ := h; rw [if_pos c0] at h; exact ⟨h.1, h.2, hM.eq hf⟩⟩, fun ν hJ => ⟨hJ.2.o, _, q_X5_put hJ.2 hW, fun r ν2 h => by obtain ⟨hf, h⟩ := h; rw [if_pos c0] at h; exact ⟨h.1, _, _, _, _, _, _, _, _, _, _, _, _, _, _, _, _, _, _, _, hJ.1.eq (fun a _ h1 => hf a h1), h.2, hW⟩⟩⟩
  by_cases c1 : th k = 0
  · exact ⟨-11, fun ν => CV np ns day nr tr (1) rg kd nm sg pt ca rs rp rl th la ln ce ν ∧ MV np ns day nr tr fl rg kd nm sg pt ca rs rp rl th la ln ce ν, ⟨_, q_X4_put hC hW, fun r ν h => by obtain ⟨hf, h⟩ := h; rw [if_neg c0, if_pos c1] at h; exact ⟨h.1, h.2, hM.eq hf⟩⟩, fun ν hJ => ⟨hJ.2.o, _, q_X5_put hJ.2 hW, fun r ν2 h => by obtain ⟨hf, h⟩ := h; rw [if_neg c0, if_pos c1] at h; exact ⟨h.1, _, _, _, _, _, _, _, _, _, _, _, _, _, _, _, _, _, _, _, hJ.1.eq (fun a _ h1 => hf a h1), h.2, hW⟩⟩⟩
  by_cases c2 : ¬ ((0 ≤ i ∧ i ≤ ln k) ∧ 1 ≤ ln k - i)
  · exact ⟨-13, fun ν => CV np ns day nr tr (3) rg kd nm sg pt ca rs rp rl th la ln ce ν ∧ MV np ns day nr tr fl rg kd nm sg pt ca rs rp rl th la ln ce ν, ⟨_, q_X4_put hC hW, fun r ν h => by obtain ⟨hf, h⟩ := h; rw [if_neg c0, if_neg c1, if_pos c2] at h; exact ⟨h.1, h.2, hM.eq hf⟩⟩, fun ν hJ => ⟨hJ.2.o, _, q_X5_put hJ.2 hW, fun r ν2 h => by obtain ⟨hf, h⟩ := h; rw [if_neg c0, if_neg c1, if_pos c2] at h; exact ⟨h.1, _, _, _, _, _, _, _, _, _, _, _, _, _, _, _, _, _, _, _, hJ.1.eq (fun a _ h1 => hf a h1), h.2, hW⟩⟩⟩
  exact ⟨1, fun ν => CV np ns day nr tr (0) rg kd nm sg pt ca rs rp rl th la ln (cup ce k (fup (ce k) i (if la k = 0 then i2b v else if la k = 1 then i2s v else v))) ν ∧ MV np ns day nr tr fl rg kd nm sg pt ca rs rp rl th la ln ce ν, ⟨_, q_X4_put hC hW, fun r ν h => by obtain ⟨hf, h⟩ := h; rw [if_neg c0, if_neg c1, if_neg c2] at h; exact ⟨h.1, h.2, hM.eq hf⟩⟩, fun ν hJ => ⟨hJ.2.o, _, q_X5_put hJ.2 hW, fun r ν2 h => by obtain ⟨hf, h⟩ := h; rw [if_neg c0, if_neg c1, if_neg c2] at h; exact ⟨h.1, _, _, _, _, _, _, _, _, _, _, _, _, _, _, _, _, _, _, _, hJ.1.eq (fun a _ h1 => hf a h1), h.2, hW⟩⟩⟩

set_option maxHeartbeats 4000000 in
theorem s_cell {K : KX} {k i l : Int} {μ : Int → ME} (hI : INV μ) : ∃ (ans : Int) (J : (Int → ME) → Prop), CtE K 7 yX4_cell cX4_cell 5 (some .long) [vR 0, vI k, vI i, vI l] μ (vL ans) J ∧ ∀ μ', J μ' → (∃ fs, μ' 42 = mO 5 fs) ∧ CtE K 7 yX5_cell cX5_cell 4 (some .long) [vR 42, vI k, vI i, vI l] μ' (vL ans) INV := by
  obtain ⟨np, ns, day, nr, tr, fl, rg, kd, nm, sg, pt, ca, rs, rp, rl, th, la, ln, ce, hC, hM, hW⟩ := hI
  by_cases c0 : ¬ ((0 ≤ k ∧ k < 4) ∧ (0 ≤ l ∧ l < 3))
  · exact ⟨-9223372036854775808, fun ν => CV np ns day nr tr (0) rg kd nm sg pt ca rs rp rl th la ln ce ν ∧ MV np ns day nr tr fl rg kd nm sg pt ca rs rp rl th la ln ce ν, ⟨_, q_X4_cell hC hW, fun r ν h => by obtain ⟨hf, h⟩ := h; rw [if_pos c0] at h; exact ⟨h.1, h.2, hM.eq hf⟩⟩, fun ν hJ => ⟨hJ.2.o, _, q_X5_cell hJ.2 hW, fun r ν2 h => by obtain ⟨hf, h⟩ := h; rw [if_pos c0] at h; exact ⟨h.1, _, _, _, _, _, _, _, _, _, _, _, _, _, _, _, _, _, _, _, hJ.1.eq (fun a _ h1 => hf a h1), h.2, hW⟩⟩⟩
  by_cases c1 : fot (th k) (la k) (ln k) l i 1 ≠ 0
  · exact ⟨-9223372036854775808, fun ν => CV np ns day nr tr (fot (th k) (la k) (ln k) l i 1) rg kd nm sg pt ca rs rp rl th la ln ce ν ∧ MV np ns day nr tr fl rg kd nm sg pt ca rs rp rl th la ln ce ν, ⟨_, q_X4_cell hC hW, fun r ν h => by obtain ⟨hf, h⟩ := h; rw [if_neg c0, if_pos c1] at h; exact ⟨h.1, h.2, hM.eq hf⟩⟩, fun ν hJ => ⟨hJ.2.o, _, q_X5_cell hJ.2 hW, fun r ν2 h => by obtain ⟨hf, h⟩ := h; rw [if_neg c0, if_pos c1] at h; exact ⟨h.1, _, _, _, _, _, _, _, _, _, _, _, _, _, _, _, _, _, _, _, hJ.1.eq (fun a _ h1 => hf a h1), h.2, hW⟩⟩⟩
  exact ⟨ce k i, fun ν => CV np ns day nr tr (0) rg kd nm sg pt ca rs rp rl th la ln ce ν ∧ MV np ns day nr tr fl rg kd nm sg pt ca rs rp rl th la ln ce ν, ⟨_, q_X4_cell hC hW, fun r ν h => by obtain ⟨hf, h⟩ := h; rw [if_neg c0, if_neg c1] at h; exact ⟨h.1, h.2, hM.eq hf⟩⟩, fun ν hJ => ⟨hJ.2.o, _, q_X5_cell hJ.2 hW, fun r ν2 h => by obtain ⟨hf, h⟩ := h; rw [if_neg c0, if_neg c1] at h; exact ⟨h.1, _, _, _, _, _, _, _, _, _, _, _, _, _, _, _, _, _, _, _, hJ.1.eq (fun a _ h1 => hf a h1), h.2, hW⟩⟩⟩

set_option maxHeartbeats 4000000 in
theorem s_copy {K : KX} {k i u j n : Int} {μ : Int → ME} (hI : INV μ) : ∃ (ans : Int) (J : (Int → ME) → Prop), CtE K 7 yX4_copy cX4_copy 8 (some .int) [vR 0, vI k, vI i, vI u, vI j, vI n] μ (vI ans) J ∧ ∀ μ', J μ' → (∃ fs, μ' 42 = mO 5 fs) ∧ CtE K 7 yX5_copy cX5_copy 10 (some .int) [vR 42, vI k, vI i, vI u, vI j, vI n] μ' (vI ans) INV := by
  obtain ⟨np, ns, day, nr, tr, fl, rg, kd, nm, sg, pt, ca, rs, rp, rl, th, la, ln, ce, hC, hM, hW⟩ := hI
  by_cases c0 : ¬ ((0 ≤ k ∧ k < 4) ∧ (0 ≤ u ∧ u < 4))
  · exact ⟨-1, fun ν => CV np ns day nr tr (0) rg kd nm sg pt ca rs rp rl th la ln ce ν ∧ MV np ns day nr tr fl rg kd nm sg pt ca rs rp rl th la ln ce ν, ⟨_, q_X4_copy hC hW, fun r ν h => by obtain ⟨hf, h⟩ := h; rw [if_pos c0] at h; exact ⟨h.1, h.2, hM.eq hf⟩⟩, fun ν hJ => ⟨hJ.2.o, _, q_X5_copy hJ.2 hW, fun r ν2 h => by obtain ⟨hf, h⟩ := h; rw [if_pos c0] at h; exact ⟨h.1, _, _, _, _, _, _, _, _, _, _, _, _, _, _, _, _, _, _, _, hJ.1.eq (fun a _ h1 => hf a h1), h.2, hW⟩⟩⟩
  by_cases c1 : th k = 0 ∨ th u = 0
  · exact ⟨-11, fun ν => CV np ns day nr tr (1) rg kd nm sg pt ca rs rp rl th la ln ce ν ∧ MV np ns day nr tr fl rg kd nm sg pt ca rs rp rl th la ln ce ν, ⟨_, q_X4_copy hC hW, fun r ν h => by obtain ⟨hf, h⟩ := h; rw [if_neg c0, if_pos c1] at h; exact ⟨h.1, h.2, hM.eq hf⟩⟩, fun ν hJ => ⟨hJ.2.o, _, q_X5_copy hJ.2 hW, fun r ν2 h => by obtain ⟨hf, h⟩ := h; rw [if_neg c0, if_pos c1] at h; exact ⟨h.1, _, _, _, _, _, _, _, _, _, _, _, _, _, _, _, _, _, _, _, hJ.1.eq (fun a _ h1 => hf a h1), h.2, hW⟩⟩⟩
  by_cases c2 : la k ≠ la u
  · exact ⟨-12, fun ν => CV np ns day nr tr (2) rg kd nm sg pt ca rs rp rl th la ln ce ν ∧ MV np ns day nr tr fl rg kd nm sg pt ca rs rp rl th la ln ce ν, ⟨_, q_X4_copy hC hW, fun r ν h => by obtain ⟨hf, h⟩ := h; rw [if_neg c0, if_neg c1, if_pos c2] at h; exact ⟨h.1, h.2, hM.eq hf⟩⟩, fun ν hJ => ⟨hJ.2.o, _, q_X5_copy hJ.2 hW, fun r ν2 h => by obtain ⟨hf, h⟩ := h; rw [if_neg c0, if_neg c1, if_pos c2] at h; exact ⟨h.1, _, _, _, _, _, _, _, _, _, _, _, _, _, _, _, _, _, _, _, hJ.1.eq (fun a _ h1 => hf a h1), h.2, hW⟩⟩⟩
  by_cases c3 : ¬ (0 ≤ n ∧ ((0 ≤ i ∧ i ≤ ln k) ∧ n ≤ ln k - i) ∧ ((0 ≤ j ∧ j ≤ ln u) ∧ n ≤ ln u - j))
  · exact ⟨-13, fun ν => CV np ns day nr tr (3) rg kd nm sg pt ca rs rp rl th la ln ce ν ∧ MV np ns day nr tr fl rg kd nm sg pt ca rs rp rl th la ln ce ν, ⟨_, q_X4_copy hC hW, fun r ν h => by obtain ⟨hf, h⟩ := h; rw [if_neg c0, if_neg c1, if_neg c2, if_pos c3] at h; exact ⟨h.1, h.2, hM.eq hf⟩⟩, fun ν hJ => ⟨hJ.2.o, _, q_X5_copy hJ.2 hW, fun r ν2 h => by obtain ⟨hf, h⟩ := h; rw [if_neg c0, if_neg c1, if_neg c2, if_pos c3] at h; exact ⟨h.1, _, _, _, _, _, _, _, _, _, _, _, _, _, _, _, _, _, _, _, hJ.1.eq (fun a _ h1 => hf a h1), h.2, hW⟩⟩⟩
  exact ⟨n, fun ν => CV np ns day nr tr (0) rg kd nm sg pt ca rs rp rl th la ln (cup ce u (fcp (ce k) (ce u) i j n)) ν ∧ MV np ns day nr tr fl rg kd nm sg pt ca rs rp rl th la ln ce ν, ⟨_, q_X4_copy hC hW, fun r ν h => by obtain ⟨hf, h⟩ := h; rw [if_neg c0, if_neg c1, if_neg c2, if_neg c3] at h; exact ⟨h.1, h.2, hM.eq hf⟩⟩, fun ν hJ => ⟨hJ.2.o, _, q_X5_copy hJ.2 hW, fun r ν2 h => by obtain ⟨hf, h⟩ := h; rw [if_neg c0, if_neg c1, if_neg c2, if_neg c3] at h; exact ⟨h.1, _, _, _, _, _, _, _, _, _, _, _, _, _, _, _, _, _, _, _, hJ.1.eq (fun a _ h1 => hf a h1), h.2, hW⟩⟩⟩

set_option maxHeartbeats 4000000 in
theorem s_tell {K : KX} {k : Int} {μ : Int → ME} (hI : INV μ) : ∃ (ans : Int) (J : (Int → ME) → Prop), CtE K 7 yX4_tell cX4_tell 3 (some .int) [vR 0, vI k] μ (vI ans) J ∧ ∀ μ', J μ' → (∃ fs, μ' 42 = mO 5 fs) ∧ CtE K 7 yX5_tell cX5_tell 3 (some .int) [vR 42, vI k] μ' (vI ans) INV := by
  obtain ⟨np, ns, day, nr, tr, fl, rg, kd, nm, sg, pt, ca, rs, rp, rl, th, la, ln, ce, hC, hM, hW⟩ := hI
  by_cases c0 : ¬ (0 ≤ k ∧ k < ns)
  · exact ⟨-1, fun ν => CV np ns day nr tr fl rg kd nm sg pt ca rs rp rl th la ln ce ν ∧ MV np ns day nr tr fl rg kd nm sg pt ca rs rp rl th la ln ce ν, ⟨_, q_X4_tell hC hW, fun r ν h => by obtain ⟨hf, h⟩ := h; rw [if_pos c0] at h; exact ⟨h.1, h.2, hM.eq hf⟩⟩, fun ν hJ => ⟨hJ.2.o, _, q_X5_tell hJ.2 hW, fun r ν2 h => by obtain ⟨hf, h⟩ := h; rw [if_pos c0] at h; exact ⟨h.1, _, _, _, _, _, _, _, _, _, _, _, _, _, _, _, _, _, _, _, hJ.1.eq (fun a _ h1 => hf a h1), h.2, hW⟩⟩⟩
  by_cases c1 : kd k = 1
  · exact ⟨sg k + 100, fun ν => CV np ns day nr (iwr (iwr (31 * (iwr (iwr (31 * tr) + 2))) + 1)) fl rg kd nm sg pt ca rs rp rl th la ln ce ν ∧ MV np ns day nr tr fl rg kd nm sg pt ca rs rp rl th la ln ce ν, ⟨_, q_X4_tell hC hW, fun r ν h => by obtain ⟨hf, h⟩ := h; rw [if_neg c0, if_pos c1] at h; exact ⟨h.1, h.2, hM.eq hf⟩⟩, fun ν hJ => ⟨hJ.2.o, _, q_X5_tell hJ.2 hW, fun r ν2 h => by obtain ⟨hf, h⟩ := h; rw [if_neg c0, if_pos c1] at h; exact ⟨h.1, _, _, _, _, _, _, _, _, _, _, _, _, _, _, _, _, _, _, _, hJ.1.eq (fun a _ h1 => hf a h1), h.2, hW⟩⟩⟩
  by_cases c2 : kd k = 2
  · exact ⟨2 * sg k + 100, fun ν => CV np ns day nr (iwr (iwr (31 * (iwr (iwr (31 * (iwr (iwr (31 * (iwr (iwr (31 * tr) + 3))) + 2))) + 1))) + 1)) fl rg kd nm sg pt ca rs rp rl th la ln ce ν ∧ MV np ns day nr tr fl rg kd nm sg pt ca rs rp rl th la ln ce ν, ⟨_, q_X4_tell hC hW, fun r ν h => by obtain ⟨hf, h⟩ := h; rw [if_neg c0, if_neg c1, if_pos c2] at h; exact ⟨h.1, h.2, hM.eq hf⟩⟩, fun ν hJ => ⟨hJ.2.o, _, q_X5_tell hJ.2 hW, fun r ν2 h => by obtain ⟨hf, h⟩ := h; rw [if_neg c0, if_neg c1, if_pos c2] at h; exact ⟨h.1, _, _, _, _, _, _, _, _, _, _, _, _, _, _, _, _, _, _, _, hJ.1.eq (fun a _ h1 => hf a h1), h.2, hW⟩⟩⟩
  exact ⟨sg k, fun ν => CV np ns day nr (iwr (iwr (31 * tr) + 1)) fl rg kd nm sg pt ca rs rp rl th la ln ce ν ∧ MV np ns day nr tr fl rg kd nm sg pt ca rs rp rl th la ln ce ν, ⟨_, q_X4_tell hC hW, fun r ν h => by obtain ⟨hf, h⟩ := h; rw [if_neg c0, if_neg c1, if_neg c2] at h; exact ⟨h.1, h.2, hM.eq hf⟩⟩, fun ν hJ => ⟨hJ.2.o, _, q_X5_tell hJ.2 hW, fun r ν2 h => by obtain ⟨hf, h⟩ := h; rw [if_neg c0, if_neg c1, if_neg c2] at h; exact ⟨h.1, _, _, _, _, _, _, _, _, _, _, _, _, _, _, _, _, _, _, _, hJ.1.eq (fun a _ h1 => hf a h1), h.2, hW⟩⟩⟩

set_option maxHeartbeats 4000000 in
theorem s_hail {K : KX} {k : Int} {μ : Int → ME} (hI : INV μ) : ∃ (ans : Int) (J : (Int → ME) → Prop), CtE K 7 yX4_hail cX4_hail 2 (some .int) [vR 0, vI k] μ (vI ans) J ∧ ∀ μ', J μ' → (∃ fs, μ' 42 = mO 5 fs) ∧ CtE K 7 yX5_hail cX5_hail 2 (some .int) [vR 42, vI k] μ' (vI ans) INV := by
  obtain ⟨np, ns, day, nr, tr, fl, rg, kd, nm, sg, pt, ca, rs, rp, rl, th, la, ln, ce, hC, hM, hW⟩ := hI
  by_cases c0 : ¬ (0 ≤ k ∧ k < ns)
  · exact ⟨-1, fun ν => CV np ns day nr tr fl rg kd nm sg pt ca rs rp rl th la ln ce ν ∧ MV np ns day nr tr fl rg kd nm sg pt ca rs rp rl th la ln ce ν, ⟨_, q_X4_hail hC hW, fun r ν h => by obtain ⟨hf, h⟩ := h; rw [if_pos c0] at h; exact ⟨h.1, h.2, hM.eq hf⟩⟩, fun ν hJ => ⟨hJ.2.o, _, q_X5_hail hJ.2 hW, fun r ν2 h => by obtain ⟨hf, h⟩ := h; rw [if_pos c0] at h; exact ⟨h.1, _, _, _, _, _, _, _, _, _, _, _, _, _, _, _, _, _, _, _, hJ.1.eq (fun a _ h1 => hf a h1), h.2, hW⟩⟩⟩
  by_cases c1 : kd k = 2
  · exact ⟨60, fun ν => CV np ns day nr (iwr (iwr (31 * tr) + 5)) fl rg kd nm sg pt ca rs rp rl th la ln ce ν ∧ MV np ns day nr tr fl rg kd nm sg pt ca rs rp rl th la ln ce ν, ⟨_, q_X4_hail hC hW, fun r ν h => by obtain ⟨hf, h⟩ := h; rw [if_neg c0, if_pos c1] at h; exact ⟨h.1, h.2, hM.eq hf⟩⟩, fun ν hJ => ⟨hJ.2.o, _, q_X5_hail hJ.2 hW, fun r ν2 h => by obtain ⟨hf, h⟩ := h; rw [if_neg c0, if_pos c1] at h; exact ⟨h.1, _, _, _, _, _, _, _, _, _, _, _, _, _, _, _, _, _, _, _, hJ.1.eq (fun a _ h1 => hf a h1), h.2, hW⟩⟩⟩
  exact ⟨nm k, fun ν => CV np ns day nr (iwr (iwr (31 * tr) + 4)) fl rg kd nm sg pt ca rs rp rl th la ln ce ν ∧ MV np ns day nr tr fl rg kd nm sg pt ca rs rp rl th la ln ce ν, ⟨_, q_X4_hail hC hW, fun r ν h => by obtain ⟨hf, h⟩ := h; rw [if_neg c0, if_neg c1] at h; exact ⟨h.1, h.2, hM.eq hf⟩⟩, fun ν hJ => ⟨hJ.2.o, _, q_X5_hail hJ.2 hW, fun r ν2 h => by obtain ⟨hf, h⟩ := h; rw [if_neg c0, if_neg c1] at h; exact ⟨h.1, _, _, _, _, _, _, _, _, _, _, _, _, _, _, _, _, _, _, _, hJ.1.eq (fun a _ h1 => hf a h1), h.2, hW⟩⟩⟩

set_option maxHeartbeats 4000000 in
theorem s_as {K : KX} {k x : Int} {μ : Int → ME} (hI : INV μ) : ∃ (ans : Int) (J : (Int → ME) → Prop), CtE K 7 yX4_as cX4_as 3 (some .int) [vR 0, vI k, vI x] μ (vI ans) J ∧ ∀ μ', J μ' → (∃ fs, μ' 42 = mO 5 fs) ∧ CtE K 7 yX5_as cX5_as 3 (some .int) [vR 42, vI k, vI x] μ' (vI ans) INV := by
  obtain ⟨np, ns, day, nr, tr, fl, rg, kd, nm, sg, pt, ca, rs, rp, rl, th, la, ln, ce, hC, hM, hW⟩ := hI
  by_cases c0 : ¬ (0 ≤ k ∧ k < ns)
  · exact ⟨-1, fun ν => CV np ns day nr tr (0) rg kd nm sg pt ca rs rp rl th la ln ce ν ∧ MV np ns day nr tr fl rg kd nm sg pt ca rs rp rl th la ln ce ν, ⟨_, q_X4_as hC hW, fun r ν h => by obtain ⟨hf, h⟩ := h; rw [if_pos c0] at h; exact ⟨h.1, h.2, hM.eq hf⟩⟩, fun ν hJ => ⟨hJ.2.o, _, q_X5_as hJ.2 hW, fun r ν2 h => by obtain ⟨hf, h⟩ := h; rw [if_pos c0] at h; exact ⟨h.1, _, _, _, _, _, _, _, _, _, _, _, _, _, _, _, _, _, _, _, hJ.1.eq (fun a _ h1 => hf a h1), h.2, hW⟩⟩⟩
  by_cases c1 : ¬ (0 ≤ x ∧ x < 3)
  · exact ⟨-2, fun ν => CV np ns day nr tr (0) rg kd nm sg pt ca rs rp rl th la ln ce ν ∧ MV np ns day nr tr fl rg kd nm sg pt ca rs rp rl th la ln ce ν, ⟨_, q_X4_as hC hW, fun r ν h => by obtain ⟨hf, h⟩ := h; rw [if_neg c0, if_pos c1] at h; exact ⟨h.1, h.2, hM.eq hf⟩⟩, fun ν hJ => ⟨hJ.2.o, _, q_X5_as hJ.2 hW, fun r ν2 h => by obtain ⟨hf, h⟩ := h; rw [if_neg c0, if_pos c1] at h; exact ⟨h.1, _, _, _, _, _, _, _, _, _, _, _, _, _, _, _, _, _, _, _, hJ.1.eq (fun a _ h1 => hf a h1), h.2, hW⟩⟩⟩
  by_cases c2 : kd k < x
  · exact ⟨-12, fun ν => CV np ns day nr tr (2) rg kd nm sg pt ca rs rp rl th la ln ce ν ∧ MV np ns day nr tr fl rg kd nm sg pt ca rs rp rl th la ln ce ν, ⟨_, q_X4_as hC hW, fun r ν h => by obtain ⟨hf, h⟩ := h; rw [if_neg c0, if_neg c1, if_pos c2] at h; exact ⟨h.1, h.2, hM.eq hf⟩⟩, fun ν hJ => ⟨hJ.2.o, _, q_X5_as hJ.2 hW, fun r ν2 h => by obtain ⟨hf, h⟩ := h; rw [if_neg c0, if_neg c1, if_pos c2] at h; exact ⟨h.1, _, _, _, _, _, _, _, _, _, _, _, _, _, _, _, _, _, _, _, hJ.1.eq (fun a _ h1 => hf a h1), h.2, hW⟩⟩⟩
  exact ⟨1, fun ν => CV np ns day nr tr (0) rg kd nm sg pt ca rs rp rl th la ln ce ν ∧ MV np ns day nr tr fl rg kd nm sg pt ca rs rp rl th la ln ce ν, ⟨_, q_X4_as hC hW, fun r ν h => by obtain ⟨hf, h⟩ := h; rw [if_neg c0, if_neg c1, if_neg c2] at h; exact ⟨h.1, h.2, hM.eq hf⟩⟩, fun ν hJ => ⟨hJ.2.o, _, q_X5_as hJ.2 hW, fun r ν2 h => by obtain ⟨hf, h⟩ := h; rw [if_neg c0, if_neg c1, if_neg c2] at h; exact ⟨h.1, _, _, _, _, _, _, _, _, _, _, _, _, _, _, _, _, _, _, _, hJ.1.eq (fun a _ h1 => hf a h1), h.2, hW⟩⟩⟩

set_option maxHeartbeats 4000000 in
theorem s_trace {K : KX} {μ : Int → ME} (hI : INV μ) : ∃ (ans : Int) (J : (Int → ME) → Prop), CtE K 7 yX4_trace cX4_trace 1 (some .int) [vR 0] μ (vI ans) J ∧ ∀ μ', J μ' → (∃ fs, μ' 42 = mO 5 fs) ∧ CtE K 7 yX5_trace cX5_trace 1 (some .int) [vR 42] μ' (vI ans) INV := by
  obtain ⟨np, ns, day, nr, tr, fl, rg, kd, nm, sg, pt, ca, rs, rp, rl, th, la, ln, ce, hC, hM, hW⟩ := hI
  exact ⟨tr, fun ν => CV np ns day nr tr fl rg kd nm sg pt ca rs rp rl th la ln ce ν ∧ MV np ns day nr tr fl rg kd nm sg pt ca rs rp rl th la ln ce ν, ⟨_, q_X4_trace hC hW, fun r ν h => by obtain ⟨hf, h⟩ := h; exact ⟨h.1, h.2, hM.eq hf⟩⟩, fun ν hJ => ⟨hJ.2.o, _, q_X5_trace hJ.2 hW, fun r ν2 h => by obtain ⟨hf, h⟩ := h; exact ⟨h.1, _, _, _, _, _, _, _, _, _, _, _, _, _, _, _, _, _, _, _, hJ.1.eq (fun a _ h1 => hf a h1), h.2, hW⟩⟩⟩

set_option maxHeartbeats 4000000 in
theorem s_fault {K : KX} {μ : Int → ME} (hI : INV μ) : ∃ (ans : Int) (J : (Int → ME) → Prop), CtE K 7 yX4_fault cX4_fault 1 (some .int) [vR 0] μ (vI ans) J ∧ ∀ μ', J μ' → (∃ fs, μ' 42 = mO 5 fs) ∧ CtE K 7 yX5_fault cX5_fault 1 (some .int) [vR 42] μ' (vI ans) INV := by
  obtain ⟨np, ns, day, nr, tr, fl, rg, kd, nm, sg, pt, ca, rs, rp, rl, th, la, ln, ce, hC, hM, hW⟩ := hI
  exact ⟨fl, fun ν => CV np ns day nr tr fl rg kd nm sg pt ca rs rp rl th la ln ce ν ∧ MV np ns day nr tr fl rg kd nm sg pt ca rs rp rl th la ln ce ν, ⟨_, q_X4_fault hC hW, fun r ν h => by obtain ⟨hf, h⟩ := h; exact ⟨h.1, h.2, hM.eq hf⟩⟩, fun ν hJ => ⟨hJ.2.o, _, q_X5_fault hJ.2 hW, fun r ν2 h => by obtain ⟨hf, h⟩ := h; exact ⟨h.1, _, _, _, _, _, _, _, _, _, _, _, _, _, _, _, _, _, _, _, hJ.1.eq (fun a _ h1 => hf a h1), h.2, hW⟩⟩⟩

set_option maxHeartbeats 4000000 in
theorem s_many {K : KX} {w : Int} {μ : Int → ME} (hI : INV μ) : ∃ (ans : Int) (J : (Int → ME) → Prop), CtE K 7 yX4_many cX4_many 2 (some .int) [vR 0, vI w] μ (vI ans) J ∧ ∀ μ', J μ' → (∃ fs, μ' 42 = mO 5 fs) ∧ CtE K 7 yX5_many cX5_many 2 (some .int) [vR 42, vI w] μ' (vI ans) INV := by
  obtain ⟨np, ns, day, nr, tr, fl, rg, kd, nm, sg, pt, ca, rs, rp, rl, th, la, ln, ce, hC, hM, hW⟩ := hI
  exact ⟨mnT w ns np day nr (metN nm ca ns.toNat), fun ν => CV np ns day nr tr fl rg kd nm sg pt ca rs rp rl th la ln ce ν ∧ MV np ns day nr tr fl rg kd nm sg pt ca rs rp rl th la ln ce ν, ⟨_, q_X4_many hC hW, fun r ν h => by obtain ⟨hf, h⟩ := h; exact ⟨h.1, h.2, hM.eq hf⟩⟩, fun ν hJ => ⟨hJ.2.o, _, q_X5_many hJ.2 hW, fun r ν2 h => by obtain ⟨hf, h⟩ := h; exact ⟨h.1, _, _, _, _, _, _, _, _, _, _, _, _, _, _, _, _, _, _, _, hJ.1.eq (fun a _ h1 => hf a h1), h.2, hW⟩⟩⟩
