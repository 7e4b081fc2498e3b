abbrev pV (P : (Int → ME) → Prop) : Option PV → (Int → ME) → Prop := fun r μ' => r = none ∧ P μ'
abbrev pI (P : Int → (Int → ME) → Prop) : Option PV → (Int → ME) → Prop := fun r μ' => ∃ z : Int, r = some (vI z) ∧ P z μ'
section PMCONV2
variable {K : KX} {X : CX} {nL d : Nat} {Q : State → Prop} {cc : ByteArray} {own : String} {ret : Option FieldType} {pc : Nat} {ls : List (Nat × PV)} {st : List PV} {μ : Int → ME}
theorem p_callVV (C : okX K X cc own nL (d + 1) ret) {idx n maxL : Nat} {y : MethodName} {bytes : ByteArray} {retc : Option FieldType} {P : (Int → ME) → Prop} {av rest : List PV} {a : Int} {ci : Nat} {fs : List PV} {q : vw_C}  (L : LnkV own idx y bytes maxL retc n) (dg : decode cc pc = .ok (.invokevirtual idx, 3)) (hM : Ct K d y bytes maxL retc (vR a :: av) μ (pV P)) (ha : IR a) (hm : μ a = mO ci fs) (hc : classes[ci]? = some q) (hq : q.1 = y.cls) (hn : av.length = n) (hst : st = av.reverse ++ vR a :: rest) (hsz : (rest.map fun v => if isL v = true then 2 else 1).sum ≤ 8)
    (kk : ∀ μ' : Int → ME, P μ' → PW K X nL Q (pc + 3) ls rest μ') : PW K X nL Q pc ls st μ :=
  p_callV C L dg hM ha hm hc hq hn hst hsz (fun r μ' h => by obtain ⟨rfl, h⟩ := h; exact kk μ' h)
theorem p_callVI (C : okX K X cc own nL (d + 1) ret) {idx n maxL : Nat} {y : MethodName} {bytes : ByteArray} {retc : Option FieldType} {P : Int → (Int → ME) → Prop} {av rest : List PV} {a : Int} {ci : Nat} {fs : List PV} {q : vw_C}  (L : LnkV own idx y bytes maxL retc n) (dg : decode cc pc = .ok (.invokevirtual idx, 3)) (hM : Ct K d y bytes maxL retc (vR a :: av) μ (pI P)) (ha : IR a) (hm : μ a = mO ci fs) (hc : classes[ci]? = some q) (hq : q.1 = y.cls) (hn : av.length = n) (hst : st = av.reverse ++ vR a :: rest) (hsz : (rest.map fun v => if isL v = true then 2 else 1).sum ≤ 8)
    (kk : ∀ (z : Int) (μ' : Int → ME), P z μ' → PW K X nL Q (pc + 3) ls (vI z :: rest) μ') : PW K X nL Q pc ls st μ :=
  p_callV C L dg hM ha hm hc hq hn hst hsz (fun r μ' h => by obtain ⟨z, rfl, h⟩ := h; exact kk z μ' h)
theorem p_callSV (C : okX K X cc own nL (d + 1) ret) {idx n maxL : Nat} {y : MethodName} {bytes : ByteArray} {retc : Option FieldType} {P : (Int → ME) → Prop} {av rest : List PV}  (L : LnkS own idx y bytes maxL retc n) (dg : decode cc pc = .ok (.invokestatic idx, 3)) (hM : Ct K d y bytes maxL retc av μ (pV P)) (hn : av.length = n) (hst : st = av.reverse ++ rest) (hsz : (rest.map fun v => if isL v = true then 2 else 1).sum ≤ 8)
    (kk : ∀ μ' : Int → ME, P μ' → PW K X nL Q (pc + 3) ls rest μ') : PW K X nL Q pc ls st μ :=
  p_callS C L dg hM hn hst hsz (fun r μ' h => by obtain ⟨rfl, h⟩ := h; exact kk μ' h)
theorem p_callSI (C : okX K X cc own nL (d + 1) ret) {idx n maxL : Nat} {y : MethodName} {bytes : ByteArray} {retc : Option FieldType} {P : Int → (Int → ME) → Prop} {av rest : List PV}  (L : LnkS own idx y bytes maxL retc n) (dg : decode cc pc = .ok (.invokestatic idx, 3)) (hM : Ct K d y bytes maxL retc av μ (pI P)) (hn : av.length = n) (hst : st = av.reverse ++ rest) (hsz : (rest.map fun v => if isL v = true then 2 else 1).sum ≤ 8)
    (kk : ∀ (z : Int) (μ' : Int → ME), P z μ' → PW K X nL Q (pc + 3) ls (vI z :: rest) μ') : PW K X nL Q pc ls st μ :=
  p_callS C L dg hM hn hst hsz (fun r μ' h => by obtain ⟨z, rfl, h⟩ := h; exact kk z μ' h)
theorem p_callNV (C : okX K X cc own nL (d + 1) ret) {idx n maxL : Nat} {y : MethodName} {host : String} {bytes : ByteArray} {retc : Option FieldType} {P : (Int → ME) → Prop} {av rest : List PV}  (L : LnkN own idx y host bytes maxL retc n) (dg : decode cc pc = .ok (.invokestatic idx, 3)) (hM : Ct K d y bytes maxL retc av μ (pV P)) (hn : av.length = n) (hst : st = av.reverse ++ rest) (hsz : (rest.map fun v => if isL v = true then 2 else 1).sum ≤ 8)
    (kk : ∀ μ' : Int → ME, P μ' → PW K X nL Q (pc + 3) ls rest μ') : PW K X nL Q pc ls st μ :=
  p_callN C L dg hM hn hst hsz (fun r μ' h => by obtain ⟨rfl, h⟩ := h; exact kk μ' h)
theorem p_callNI (C : okX K X cc own nL (d + 1) ret) {idx n maxL : Nat} {y : MethodName} {host : String} {bytes : ByteArray} {retc : Option FieldType} {P : Int → (Int → ME) → Prop} {av rest : List PV}  (L : LnkN own idx y host bytes maxL retc n) (dg : decode cc pc = .ok (.invokestatic idx, 3)) (hM : Ct K d y bytes maxL retc av μ (pI P)) (hn : av.length = n) (hst : st = av.reverse ++ rest) (hsz : (rest.map fun v => if isL v = true then 2 else 1).sum ≤ 8)
    (kk : ∀ (z : Int) (μ' : Int → ME), P z μ' → PW K X nL Q (pc + 3) ls (vI z :: rest) μ') : PW K X nL Q pc ls st μ :=
  p_callN C L dg hM hn hst hsz (fun r μ' h => by obtain ⟨z, rfl, h⟩ := h; exact kk z μ' h)
end PMCONV2
theorem wor_c {f g : Int → Int} (h : ∀ j, 0 ≤ j → j < 4 → f j = g j) : wor f = wor g := by
  unfold wor
  rw [h 0 (by omega) (by omega), h 1 (by omega) (by omega), h 2 (by omega) (by omega), h 3 (by omega) (by omega)]
theorem los_r {f : Int → Int} {nm r j m : Int} (hb : bd4 f m) (hn : 0 ≤ nm ∧ nm < 4) (h0 : 0 ≤ j) (h1 : j < 4) : 0 ≤ los f nm r j ∧ los f nm r j ≤ f j := by
  have a := hb.at h0 h1
  have b := hb.at hn.1 hn.2
  unfold los cl0
  split
  · rename_i e; subst e; split
    · omega
    · split <;> omega
  · split
    · omega
    · split <;> omega
theorem los_b {f G : Int → Int} {nm r m : Int} (hb : bd4 f m) (hn : 0 ≤ nm ∧ nm < 4) (hG : ∀ j, 0 ≤ j → j < 4 → G j = los f nm r j) : bd4 G m := by
  have key : ∀ j, 0 ≤ j → j < 4 → 0 ≤ G j ∧ G j ≤ m := fun j h0 h1 => by
    have := los_r (r := r) hb hn h0 h1
    have := hb.at h0 h1
    rw [hG j h0 h1]; omega
  exact ⟨key 0 (by omega) (by omega), key 1 (by omega) (by omega), key 2 (by omega) (by omega), key 3 (by omega) (by omega)⟩
theorem bd4.le {f : Int → Int} {m m' : Int} (h : bd4 f m) (hm : m ≤ m') : bd4 f m' := by
  unfold bd4 at *; omega

set_option maxHeartbeats 4000000 in
set_option maxRecDepth 100000 in
theorem k_X4_worthLostFrom {K : KX} {d : Nat} {μ : Int → ME} {p n : Int} {g : Int → Int} {a c kd nm sg pt : Int} (ha : IR a) (h1 : μ a = oS kd nm sg pt c) {f : Int → Int} (hc : IR c) (h2 : μ c = mA 4 f) {np ns day nr tr fl : Int} (h0 : μ 0 = oY np ns day nr tr fl) {rg : Int → Int} (hr : μ 1 = mA 6 rg) (hnp : np ≤ 6) (h9 : μ 9 = mA 4 g) (hac : a ≠ c) (ha9 : a ≠ 9) (hc9 : c ≠ 9) (hp : 0 ≤ p ∧ p < np) (hn : 0 ≤ n ∧ n ≤ 30) (hsg : 0 ≤ sg ∧ sg ≤ 9) (hnm : 0 ≤ nm ∧ nm < 4) (hb : bd4 f 9) : Ct K (d + 3) yX4_worthLostFrom cX4_worthLostFrom 4 (some .int) [vR 0, vR a, vI p, vI n] μ (pI (fun z μ' => z = wor (los f nm (rdN rg np (brg kd sg) p n.toNat)) ∧ ∃ G : Int → Int, μ' = mup μ 9 (mA 4 G))) := by
  refine Ct.of (by decide) (Nat.le_of_ble_eq_true rfl) (fun X C => ?_)
  refine p_aload_n (pc := 0) C dX4_worthLostFrom_0 rfl ?_
  refine p_get (pc := 1) C fl_X4_121 dX4_worthLostFrom_1 (by first | exact ha | exact hc | exact ⟨by omega, by omega⟩) (by (repeat refine mg_n (by omega) ?_); first | assumption | exact mup_s _ _ _) (by rfl) ?_
  refine p_aload_n (pc := 4) C dX4_worthLostFrom_4 rfl ?_
  refine p_get (pc := 5) C fl_X4_95 dX4_worthLostFrom_5 (by first | exact ha | exact hc | exact ⟨by omega, by omega⟩) (by (repeat refine mg_n (by omega) ?_); first | assumption | exact mup_s _ _ _) (by rfl) ?_
  refine p_aload_n (pc := 8) C dX4_worthLostFrom_8 rfl ?_
  refine p_aload_n (pc := 9) C dX4_worthLostFrom_9 rfl ?_
  refine p_callVF (pc := 10) C ln_X4_101 dX4_worthLostFrom_10 (k_X1_bearing ha h1 (by omega)) (by first | exact ha | exact hc | exact ⟨by omega, by omega⟩) (by (repeat refine mg_n (by omega) ?_); first | assumption | exact mup_s _ _ _) rfl rfl rfl rfl (Nat.le_of_ble_eq_true rfl) ?_
  refine p_iload_n (pc := 13) C dX4_worthLostFrom_13 rfl ?_
  refine p_iload_n (pc := 14) C dX4_worthLostFrom_14 rfl ?_
  refine p_callVF (pc := 15) C ln_X4_165 dX4_worthLostFrom_15 (k_X4_roughDays h0 hr hnp (by omega) hp) (by first | exact ha | exact hc | exact ⟨by omega, by omega⟩) (by (repeat refine mg_n (by omega) ?_); first | assumption | exact mup_s _ _ _) rfl rfl rfl rfl (Nat.le_of_ble_eq_true rfl) ?_
  refine p_aload_n (pc := 18) C dX4_worthLostFrom_18 rfl ?_
  refine p_get (pc := 19) C fl_X4_38 dX4_worthLostFrom_19 (by first | exact ha | exact hc | exact ⟨by omega, by omega⟩) (by (repeat refine mg_n (by omega) ?_); first | assumption | exact mup_s _ _ _) (by rfl) ?_
  refine p_callSV (pc := 22) C ln_X4_191 dX4_worthLostFrom_22 (k_X4_fillLosses hc h2 ⟨by omega, by omega⟩ h9 hc9 hnm (hb.le (by omega)) (by have := rdN_r rg np (brg kd sg) n.toNat p; omega)) rfl rfl (Nat.le_of_ble_eq_true rfl) (fun μ' hpost => ?_)
  obtain ⟨G, rfl, hG⟩ := hpost
  refine p_aload_n (pc := 25) C dX4_worthLostFrom_25 rfl ?_
  refine p_get (pc := 26) C fl_X4_38 dX4_worthLostFrom_26 (by first | exact ha | exact hc | exact ⟨by omega, by omega⟩) (by (repeat refine mg_n (by omega) ?_); first | assumption | exact mup_s _ _ _) (by rfl) ?_
  refine p_callSF (pc := 29) C ln_X4_294 dX4_worthLostFrom_29 (k_X4_worthOfAll ⟨by omega, by omega⟩ (mup_s _ _ _) ((los_b hb hnm hG).le (by omega))) rfl rfl (Nat.le_of_ble_eq_true rfl) ?_
  refine p_iret (pc := 32) C dX4_worthLostFrom_32 ?_
  exact ⟨_, rfl, wor_c hG, G, rfl⟩

/-- the ships that have met their name, of the first t -/
def metN (nm : Int → Int) (ca : Int → Int → Int) : Nat → Int
  | 0 => 0
  | t + 1 => if ca (t : Int) (nm (t : Int)) = 0 then iOr (metN nm ca t) (iShl 1 (t : Int)) else metN nm ca t

set_option maxHeartbeats 4000000 in
set_option maxRecDepth 100000 in
theorem k_X4_metOf {K : KX} {d : Nat} {μ : Int → ME} {m b : Int} {kd nm sg pt : Int → Int} {ca : Int → Int → Int} {np ns day nr tr fl : Int} (h0 : μ 0 = oY np ns day nr tr fl) (hm0 : IR m) (hm : μ m = mR 0 5 (fun k => some (b + 4 * k))) (hb : 0 ≤ b ∧ b + 20 < 60) (hns : 0 ≤ ns ∧ ns ≤ 5) (hs : ∀ k, 0 ≤ k → k < ns → μ (b + 4 * k) = oS (kd k) (nm k) (sg k) (pt k) (b + 1 + 4 * k) ∧ μ (b + 1 + 4 * k) = mA 4 (ca k) ∧ 0 ≤ nm k ∧ nm k < 4) : Ct K (d + 1) yX4_metOf cX4_metOf 4 (some .int) [vR 0, vR m] μ (pF (vI (metN nm ca ns.toNat)) μ) := by
  refine Ct.of (by decide) (Nat.le_of_ble_eq_true rfl) (fun X C => ?_)
  have L : ∀ (t : Nat) (i w : Int), 0 ≤ i → ns - i = (t : Int) → w = metN nm ca i.toNat → PW K X 4 (QM K X (pF (vI (metN nm ca ns.toNat)) μ)) 4 [(3, vI i), (2, vI w), (0, vR 0), (1, vR m)] [] μ := by
    intro t
    induction t with
    | zero =>
      intro i w h1 h2 h3
      have e : i = ns := by omega
      subst e; subst h3
      refine p_iload_n (pc := 4) C dX4_metOf_4 rfl ?_
      refine p_aload_n (pc := 5) C dX4_metOf_5 rfl ?_
      refine p_get (pc := 6) C fl_X4_86 dX4_metOf_6 ⟨by omega, by omega⟩ (by (repeat refine mg_n (by omega) ?_); first | assumption | exact mup_s _ _ _) (by rfl) ?_
      refine p_icmp_ge (pc := 9) (tgt := 33) C dX4_metOf_9 (by decide) (fun c_9 => ?_) (fun h => by exfalso; omega)
      refine p_iload_n (pc := 33) C dX4_metOf_33 rfl ?_
      refine p_iret (pc := 34) C dX4_metOf_34 ?_
      exact ⟨rfl, rfl⟩
    | succ t ih =>
      intro i w h1 h2 h3
      obtain ⟨s1, s2, s3, s4⟩ := hs i h1 (by omega)
      have e1 : (i + 1).toNat = i.toNat + 1 := by omega
      have e2 : ((i.toNat : Nat) : Int) = i := by omega
      refine p_iload_n (pc := 4) C dX4_metOf_4 rfl ?_
      refine p_aload_n (pc := 5) C dX4_metOf_5 rfl ?_
      refine p_get (pc := 6) C fl_X4_86 dX4_metOf_6 (by first | exact hm0 | exact ⟨by omega, by omega⟩) (by (repeat refine mg_n (by omega) ?_); first | assumption | exact mup_s _ _ _) (by rfl) ?_
      refine p_icmp_ge (pc := 9) (tgt := 33) C dX4_metOf_9 (by decide) (fun h => by exfalso; omega) (fun c_9 => ?_)
      refine p_aload_n (pc := 12) C dX4_metOf_12 rfl ?_
      refine p_iload_n (pc := 13) C dX4_metOf_13 rfl ?_
      refine p_aald (pc := 14) C dX4_metOf_14 (by first | exact hm0 | exact ⟨by omega, by omega⟩) (by (repeat refine mg_n (by omega) ?_); first | assumption | exact mup_s _ _ _) (by decide) (by omega) (by rfl) ?_
      refine p_callVF (pc := 15) C ln_X4_108 dX4_metOf_15 (k_X1_isMet ⟨by omega, by omega⟩ s1 ⟨by omega, by omega⟩ s2 ⟨s3, s4⟩) (by first | exact hm0 | exact ⟨by omega, by omega⟩) (by (repeat refine mg_n (by omega) ?_); first | assumption | exact mup_s _ _ _) rfl rfl rfl rfl (Nat.le_of_ble_eq_true rfl) ?_
      refine p_ifeq_b (pc := 18) (tgt := 27) C dX4_metOf_18 (by decide) (fun c_18 => ?_) (fun c_18 => ?_)
      · refine p_iinc (pc := 27) (ls' := [(3, _), (2, _), (0, _), (1, _)]) C dX4_metOf_27 (by decide) rfl ⟨by omega, by omega⟩ rfl ?_
        refine p_goto (pc := 30) (tgt := 4) C dX4_metOf_30 (by decide) ?_
        first
          | exact ih (i + 1) _ (by omega) (by omega) (by rw [e1, metN, e2, if_pos c_18, h3])
          | exact ih (i + 1) _ (by omega) (by omega) (by rw [e1, metN, e2, if_neg c_18, h3])
      · refine p_iload_n (pc := 21) C dX4_metOf_21 rfl ?_
        refine p_iconst (pc := 22) C dX4_metOf_22 (by decide) ?_
        refine p_iload_n (pc := 23) C dX4_metOf_23 rfl ?_
        refine p_ishl (pc := 24) C dX4_metOf_24 ?_
        refine p_ior (pc := 25) C dX4_metOf_25 ?_
        refine p_istore_n (pc := 26) (ls' := [(2, _), (3, _), (0, _), (1, _)]) C dX4_metOf_26 (by decide) rfl ?_
        refine p_iinc (pc := 27) (ls' := [(3, _), (2, _), (0, _), (1, _)]) C dX4_metOf_27 (by decide) rfl ⟨by omega, by omega⟩ rfl ?_
        refine p_goto (pc := 30) (tgt := 4) C dX4_metOf_30 (by decide) ?_
        first
          | exact ih (i + 1) _ (by omega) (by omega) (by rw [e1, metN, e2, if_pos c_18, h3])
          | exact ih (i + 1) _ (by omega) (by omega) (by rw [e1, metN, e2, if_neg c_18, h3])
  refine p_iconst (pc := 0) C dX4_metOf_0 (by decide) ?_
  refine p_istore_n (pc := 1) (ls' := [(2, _), (0, _), (1, _)]) C dX4_metOf_1 (by decide) rfl ?_
  refine p_iconst (pc := 2) C dX4_metOf_2 (by decide) ?_
  refine p_istore_n (pc := 3) (ls' := [(3, _), (2, _), (0, _), (1, _)]) C dX4_metOf_3 (by decide) rfl ?_
  exact L ns.toNat 0 0 (by omega) (by omega) rfl

set_option maxHeartbeats 4000000 in
set_option maxRecDepth 100000 in
theorem k_X4_tellBarge {K : KX} {d : Nat} {μ : Int → ME} {a c kd nm sg pt : Int} (ha : IR a) (h1 : μ a = oS kd nm sg pt c) {np ns day nr tr fl : Int} (h0 : μ 0 = oY np ns day nr tr fl) (ha0 : a ≠ 0) : Ct K (d + 1) yX4_tellBarge cX4_tellBarge 2 (some .int) [vR 0, vR a] μ (pF (vI sg) (mup μ 0 (oY np ns day nr (iwr (iwr (31 * tr) + 1)) fl))) := by
  refine Ct.of (by decide) (Nat.le_of_ble_eq_true rfl) (fun X C => ?_)
  refine p_aload_n (pc := 0) C dX4_tellBarge_0 rfl ?_
  refine p_iconst (pc := 1) C dX4_tellBarge_1 (by decide) ?_
  refine p_callVU (pc := 2) C ln_X4_332 dX4_tellBarge_2 (k_X4_leave (by (repeat refine mg_n (by omega) ?_); first | assumption | exact mup_s _ _ _)) (by first | exact ha | exact ⟨by omega, by omega⟩) (by (repeat refine mg_n (by omega) ?_); first | assumption | exact mup_s _ _ _) rfl rfl rfl rfl (Nat.le_of_ble_eq_true rfl) ?_
  refine p_aload_n (pc := 5) C dX4_tellBarge_5 rfl ?_
  refine p_get (pc := 6) C fl_X4_98 dX4_tellBarge_6 (by first | exact ha | exact ⟨by omega, by omega⟩) (by (repeat refine mg_n (by omega) ?_); first | assumption | exact mup_s _ _ _) (by rfl) ?_
  refine p_iret (pc := 9) C dX4_tellBarge_9 ?_
  exact ⟨by first | rfl | (rw [if_pos (by omega)]) | (rw [if_neg (by omega)]) | (congr 2; omega), rfl⟩

set_option maxHeartbeats 4000000 in
set_option maxRecDepth 100000 in
theorem k_X4_tellCutter {K : KX} {d : Nat} {μ : Int → ME} {a c kd nm sg pt : Int} (ha : IR a) (h1 : μ a = oS kd nm sg pt c) {np ns day nr tr fl : Int} (h0 : μ 0 = oY np ns day nr tr fl) (ha0 : a ≠ 0) (hsg : 0 ≤ sg ∧ sg ≤ 9) : Ct K (d + 2) yX4_tellCutter cX4_tellCutter 2 (some .int) [vR 0, vR a] μ (pF (vI (sg + 100)) (mup μ 0 (oY np ns day nr (iwr (iwr (31 * iwr (iwr (31 * tr) + 2)) + 1)) fl))) := by
  refine Ct.of (by decide) (Nat.le_of_ble_eq_true rfl) (fun X C => ?_)
  refine p_aload_n (pc := 0) C dX4_tellCutter_0 rfl ?_
  refine p_iconst (pc := 1) C dX4_tellCutter_1 (by decide) ?_
  refine p_callVU (pc := 2) C ln_X4_332 dX4_tellCutter_2 (k_X4_leave (by (repeat refine mg_n (by omega) ?_); first | assumption | exact mup_s _ _ _)) (by first | exact ha | exact ⟨by omega, by omega⟩) (by (repeat refine mg_n (by omega) ?_); first | assumption | exact mup_s _ _ _) rfl rfl rfl rfl (Nat.le_of_ble_eq_true rfl) ?_
  refine p_aload_n (pc := 5) C dX4_tellCutter_5 rfl ?_
  refine p_aload_n (pc := 6) C dX4_tellCutter_6 rfl ?_
  refine p_callVF (pc := 7) C ln_X4_246 dX4_tellCutter_7 (k_X4_tellBarge ha (by refine mg_n ha0 ?_; exact h1) (mup_s _ _ _) ha0) (by first | exact ha | exact ⟨by omega, by omega⟩) (by (repeat refine mg_n (by omega) ?_); first | assumption | exact mup_s _ _ _) rfl rfl rfl rfl (Nat.le_of_ble_eq_true rfl) ?_
  refine p_mem (mup_mup _ _ _ _) ?_
  refine p_bipush (pc := 10) C dX4_tellCutter_10 (by decide) ?_
  refine p_iadd (pc := 12) C dX4_tellCutter_12 ⟨by omega, by omega⟩ ?_
  refine p_iret (pc := 13) C dX4_tellCutter_13 ?_
  exact ⟨by first | rfl | (rw [if_pos (by omega)]) | (rw [if_neg (by omega)]) | (congr 2; omega), rfl⟩

set_option maxHeartbeats 4000000 in
set_option maxRecDepth 100000 in
theorem k_X4_tellSloop {K : KX} {d : Nat} {μ : Int → ME} {a c kd nm sg pt : Int} (ha : IR a) (h1 : μ a = oS kd nm sg pt c) {np ns day nr tr fl : Int} (h0 : μ 0 = oY np ns day nr tr fl) (ha0 : a ≠ 0) (hsg : 0 ≤ sg ∧ sg ≤ 9) : Ct K (d + 3) yX4_tellSloop cX4_tellSloop 3 (some .int) [vR 0, vR a] μ (pF (vI (2 * sg + 100)) (mup μ 0 (oY np ns day nr (iwr (iwr (31 * iwr (iwr (31 * iwr (iwr (31 * iwr (iwr (31 * tr) + 3)) + 2)) + 1)) + 1)) fl))) := by
  refine Ct.of (by decide) (Nat.le_of_ble_eq_true rfl) (fun X C => ?_)
  refine p_aload_n (pc := 0) C dX4_tellSloop_0 rfl ?_
  refine p_iconst (pc := 1) C dX4_tellSloop_1 (by decide) ?_
  refine p_callVU (pc := 2) C ln_X4_332 dX4_tellSloop_2 (k_X4_leave (by (repeat refine mg_n (by omega) ?_); first | assumption | exact mup_s _ _ _)) (by first | exact ha | exact ⟨by omega, by omega⟩) (by (repeat refine mg_n (by omega) ?_); first | assumption | exact mup_s _ _ _) rfl rfl rfl rfl (Nat.le_of_ble_eq_true rfl) ?_
  refine p_aload_n (pc := 5) C dX4_tellSloop_5 rfl ?_
  refine p_aload_n (pc := 6) C dX4_tellSloop_6 rfl ?_
  refine p_callVF (pc := 7) C ln_X4_243 dX4_tellSloop_7 (k_X4_tellCutter ha (by refine mg_n ha0 ?_; exact h1) (mup_s _ _ _) ha0 hsg) (by first | exact ha | exact ⟨by omega, by omega⟩) (by (repeat refine mg_n (by omega) ?_); first | assumption | exact mup_s _ _ _) rfl rfl rfl rfl (Nat.le_of_ble_eq_true rfl) ?_
  refine p_mem (mup_mup _ _ _ _) ?_
  refine p_istore_n (pc := 10) (ls' := [(2, _), (0, _), (1, _)]) C dX4_tellSloop_10 (by decide) rfl ?_
  refine p_iload_n (pc := 11) C dX4_tellSloop_11 rfl ?_
  refine p_aload_n (pc := 12) C dX4_tellSloop_12 rfl ?_
  refine p_aload_n (pc := 13) C dX4_tellSloop_13 rfl ?_
  refine p_callVF (pc := 14) C ln_X4_246 dX4_tellSloop_14 (k_X4_tellBarge ha (by refine mg_n ha0 ?_; exact h1) (mup_s _ _ _) ha0) (by first | exact ha | exact ⟨by omega, by omega⟩) (by (repeat refine mg_n (by omega) ?_); first | assumption | exact mup_s _ _ _) rfl rfl rfl rfl (Nat.le_of_ble_eq_true rfl) ?_
  refine p_mem (mup_mup _ _ _ _) ?_
  refine p_iadd (pc := 17) C dX4_tellSloop_17 ⟨by omega, by omega⟩ ?_
  refine p_iret (pc := 18) C dX4_tellSloop_18 ?_
  exact ⟨sv (by omega), rfl⟩

set_option maxHeartbeats 4000000 in
set_option maxRecDepth 100000 in
theorem k_X4_hailLent {K : KX} {d : Nat} {μ : Int → ME} {a c kd nm sg pt : Int} (ha : IR a) (h1 : μ a = oS kd nm sg pt c) {np ns day nr tr fl : Int} (h0 : μ 0 = oY np ns day nr tr fl) (ha0 : a ≠ 0) : Ct K (d + 1) yX4_hailLent cX4_hailLent 2 (some .int) [vR 0, vR a] μ (pF (vI nm) (mup μ 0 (oY np ns day nr (iwr (iwr (31 * tr) + 4)) fl))) := by
  refine Ct.of (by decide) (Nat.le_of_ble_eq_true rfl) (fun X C => ?_)
  refine p_aload_n (pc := 0) C dX4_hailLent_0 rfl ?_
  refine p_iconst (pc := 1) C dX4_hailLent_1 (by decide) ?_
  refine p_callVU (pc := 2) C ln_X4_332 dX4_hailLent_2 (k_X4_leave (by (repeat refine mg_n (by omega) ?_); first | assumption | exact mup_s _ _ _)) (by first | exact ha | exact ⟨by omega, by omega⟩) (by (repeat refine mg_n (by omega) ?_); first | assumption | exact mup_s _ _ _) rfl rfl rfl rfl (Nat.le_of_ble_eq_true rfl) ?_
  refine p_aload_n (pc := 5) C dX4_hailLent_5 rfl ?_
  refine p_get (pc := 6) C fl_X4_95 dX4_hailLent_6 (by first | exact ha | exact ⟨by omega, by omega⟩) (by (repeat refine mg_n (by omega) ?_); first | assumption | exact mup_s _ _ _) (by rfl) ?_
  refine p_iret (pc := 9) C dX4_hailLent_9 ?_
  exact ⟨by first | rfl | (rw [if_pos (by omega)]) | (rw [if_neg (by omega)]) | (congr 2; omega), rfl⟩

set_option maxHeartbeats 4000000 in
set_option maxRecDepth 100000 in
theorem k_X4_hailSloop {K : KX} {d : Nat} {μ : Int → ME} {np ns day nr tr fl : Int} (h0 : μ 0 = oY np ns day nr tr fl) : Ct K (d + 1) yX4_hailSloop cX4_hailSloop 1 (some .int) [vR 0] μ (pF (vI 60) (mup μ 0 (oY np ns day nr (iwr (iwr (31 * tr) + 5)) fl))) := by
  refine Ct.of (by decide) (Nat.le_of_ble_eq_true rfl) (fun X C => ?_)
  refine p_aload_n (pc := 0) C dX4_hailSloop_0 rfl ?_
  refine p_iconst (pc := 1) C dX4_hailSloop_1 (by decide) ?_
  refine p_callVU (pc := 2) C ln_X4_332 dX4_hailSloop_2 (k_X4_leave (by (repeat refine mg_n (by omega) ?_); first | assumption | exact mup_s _ _ _)) ⟨by omega, by omega⟩ (by (repeat refine mg_n (by omega) ?_); first | assumption | exact mup_s _ _ _) rfl rfl rfl rfl (Nat.le_of_ble_eq_true rfl) ?_
  refine p_bipush (pc := 5) C dX4_hailSloop_5 (by decide) ?_
  refine p_iret (pc := 7) C dX4_hailSloop_7 ?_
  exact ⟨by first | rfl | (rw [if_pos (by omega)]) | (rw [if_neg (by omega)]) | (congr 2; omega), rfl⟩
