/-- ONE SHIP's DAYS in a closed form: a piece more is lost, the first of those that go -/
theorem los_s {f : Int → Int} {nm r j m : Int} (hb : bd4 f m) (hn : 0 ≤ nm ∧ nm < 4) (hr : 0 ≤ r) (h0 : 0 ≤ j) (h1 : j < 4) : los f nm (r + 1) j = (if gtg f nm = j then 1 else 0) + los (sdF f (gtg f nm)) nm r j := by
  obtain ⟨⟨b0, b1⟩, ⟨b2, b3⟩, ⟨b4, b5⟩, ⟨b6, b7⟩⟩ := hb
  rcases (show nm = 0 ∨ nm = 1 ∨ nm = 2 ∨ nm = 3 by omega) with rfl | rfl | rfl | rfl
  all_goals
    unfold gtg
    split
    · rcases (show j = 0 ∨ j = 1 ∨ j = 2 ∨ j = 3 by omega) with rfl | rfl | rfl | rfl
      all_goals
        simp only [sdF, los, cum, cl0, fup, Int.reduceEq, Int.reduceNeg, if_true, if_false, ne_eq, not_true_eq_false, not_false_eq_true, and_true, and_false, Int.reduceLT, true_and, false_and]
        omega
    · split
      · rcases (show j = 0 ∨ j = 1 ∨ j = 2 ∨ j = 3 by omega) with rfl | rfl | rfl | rfl
        all_goals
          simp only [sdF, los, cum, cl0, fup, Int.reduceEq, Int.reduceNeg, if_true, if_false, ne_eq, not_true_eq_false, not_false_eq_true, and_true, and_false, Int.reduceLT, true_and, false_and]
          omega
      · split
        · rcases (show j = 0 ∨ j = 1 ∨ j = 2 ∨ j = 3 by omega) with rfl | rfl | rfl | rfl
          all_goals
            simp only [sdF, los, cum, cl0, fup, Int.reduceEq, Int.reduceNeg, if_true, if_false, ne_eq, not_true_eq_false, not_false_eq_true, and_true, and_false, Int.reduceLT, true_and, false_and]
            omega
        · split
          · rcases (show j = 0 ∨ j = 1 ∨ j = 2 ∨ j = 3 by omega) with rfl | rfl | rfl | rfl
            all_goals
              simp only [sdF, los, cum, cl0, fup, Int.reduceEq, Int.reduceNeg, if_true, if_false, ne_eq, not_true_eq_false, not_false_eq_true, and_true, and_false, Int.reduceLT, true_and, false_and]
              omega
          · split
            · rcases (show j = 0 ∨ j = 1 ∨ j = 2 ∨ j = 3 by omega) with rfl | rfl | rfl | rfl
              all_goals
                simp only [sdF, los, cum, cl0, fup, Int.reduceEq, Int.reduceNeg, if_true, if_false, ne_eq, not_true_eq_false, not_false_eq_true, and_true, and_false, Int.reduceLT, true_and, false_and]
                omega
            · rcases (show j = 0 ∨ j = 1 ∨ j = 2 ∨ j = 3 by omega) with rfl | rfl | rfl | rfl
              all_goals
                simp only [sdF, los, cum, cl0, fup, Int.reduceEq, Int.reduceNeg, if_true, if_false, ne_eq, not_true_eq_false, not_false_eq_true, and_true, and_false, Int.reduceLT, true_and, false_and]
                omega
theorem los_z {f : Int → Int} {nm j m : Int} (hb : bd4 f m) (hn : 0 ≤ nm ∧ nm < 4) (h0 : 0 ≤ j) (h1 : j < 4) : los f nm 0 j = 0 := by
  have a := hb.at h0 h1
  have b := hb.at hn.1 hn.2
  unfold los cl0
  split
  · simp
  · simp only [Int.le_refl, if_true, Int.sub_zero]
    split
    · rfl
    · rename_i h
      have : 0 ≤ cum f nm j := by
        obtain ⟨⟨b0, b1⟩, ⟨b2, b3⟩, ⟨b4, b5⟩, ⟨b6, b7⟩⟩ := hb
        unfold cum
        split <;> split <;> split <;> omega
      omega
theorem it_cl {np ns : Int} {rg kd nm sg : Int → Int} {k : Int} (hN : WN ns kd nm sg) (h0 : 0 ≤ k) (h1 : k < ns) : ∀ (t : Nat) (S : DS), WS np ns S →
    (∀ j, 0 ≤ j → j < 4 → (itS np rg kd nm sg k S t).2.1 k j = S.2.1 k j - los (S.2.1 k) (nm k) (rdN rg np (brg (kd k) (sg k)) (S.1 k) t) j) ∧ (itS np rg kd nm sg k S t).2.2.2.1 = S.2.2.2.1 + wor (los (S.2.1 k) (nm k) (rdN rg np (brg (kd k) (sg k)) (S.1 k) t))
  | 0, S, h => by
    have hb := (h k h0 h1).2
    have hn := (hN k h0 h1).2.1
    rw [itS, rdN]
    refine ⟨fun j j0 j1 => by rw [los_z hb hn j0 j1]; omega, ?_⟩
    unfold wor
    rw [los_z hb hn (by omega) (by omega), los_z hb hn (by omega) (by omega), los_z hb hn (by omega) (by omega), los_z hb hn (by omega) (by omega)]
    omega
  | t + 1, S, h => by
    have hb := (h k h0 h1).2
    have hn := (hN k h0 h1).2.1
    have hg := gtg_r hb hn
    obtain ⟨i1, i2⟩ := it_cl (np := np) (rg := rg) hN h0 h1 t _ (WS_st (rg := rg) h hN h0 h1)
    have e1 : (stS np rg kd nm sg k S).2.1 k = sdF (S.2.1 k) (dsG rg kd nm sg k S) := cup_s _ _ _
    have e2 : (stS np rg kd nm sg k S).1 k = nxp np (S.1 k) := fup_s _ _ _
    have e3 : (stS np rg kd nm sg k S).2.2.2.1 = S.2.2.2.1 + (if dsG rg kd nm sg k S = -9 then 0 else dsG rg kd nm sg k S + 1) := rfl
    have hr := rdN_r rg np (brg (kd k) (sg k)) t (nxp np (S.1 k))
    have hds : dsG rg kd nm sg k S = (if brg (kd k) (sg k) < rg (S.1 k) then gtg (S.2.1 k) (nm k) else -9) := rfl
    rw [e1, e2] at i1 i2
    rw [e3] at i2
    rw [itS, rdN]
    by_cases hc : brg (kd k) (sg k) < rg (S.1 k)
    · rw [if_pos hc] at hds
      rw [if_pos hc, Int.add_comm 1]
      rw [hds] at i1 i2
      have key := fun j j0 j1 => los_s (j := j) hb hn hr.1 j0 j1
      refine ⟨fun j j0 j1 => ?_, ?_⟩
      · rw [i1 j j0 j1, key j j0 j1]
        unfold sdF
        split
        · rename_i e; rw [if_neg (by omega)]; omega
        · by_cases ej : j = gtg (S.2.1 k) (nm k)
          · subst ej; rw [fup_s, if_pos rfl]; omega
          · rw [fup_n _ _ _ ej, if_neg (fun z => ej z.symm)]; omega
      · rw [i2]
        unfold wor
        rw [key 0 (by omega) (by omega), key 1 (by omega) (by omega), key 2 (by omega) (by omega), key 3 (by omega) (by omega)]
        generalize gtg (S.2.1 k) (nm k) = g at hg ⊢
        rcases hg with hg | hg
        · rw [if_pos hg.1, if_neg (by omega), if_neg (by omega), if_neg (by omega), if_neg (by omega)]; omega
        · rw [if_neg (by omega)]
          rcases (show g = 0 ∨ g = 1 ∨ g = 2 ∨ g = 3 by omega) with rfl | rfl | rfl | rfl
          · rw [if_pos rfl, if_neg (by omega), if_neg (by omega), if_neg (by omega)]; omega
          · rw [if_neg (by omega), if_pos rfl, if_neg (by omega), if_neg (by omega)]; omega
          · rw [if_neg (by omega), if_neg (by omega), if_pos rfl, if_neg (by omega)]; omega
          · rw [if_neg (by omega), if_neg (by omega), if_neg (by omega), if_pos rfl]; omega
    · rw [if_neg hc] at hds
      rw [if_neg hc, Int.zero_add]
      rw [hds] at i1 i2
      unfold sdF at i1 i2
      rw [if_pos rfl] at i1 i2
      refine ⟨i1, ?_⟩
      rw [i2, if_pos rfl]; omega
