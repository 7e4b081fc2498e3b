def M6 (μ : Int → ME) : Int → ME := M5 (mup (M4 (mup μ 0 (mO 4 [vN, vI 0, vN, vI 0, vI 0, vN, vN, vN, vN, vN, vN, vN, vI 0, vN, vI 0, vI 0]))) 42 (mO 5 [vI 0, vI 0, vN, vN, vN, vI 0, vI 0, vI 0, vN, vN, vN, vN, vN, vN, vI 0, vI 0, vI 0, vN, vN, vN, vN, vI 0, vI 0, vI 0, vN, vI 0, vI 0, vI 0, vN, vN, vN]))
def M7 (μ : Int → ME) : Int → ME := mup (mup (mup (M6 μ) 2 (mR 0 5 (fun k => some (14 + 4 * k)))) 3 (mR 0 5 (fun k => some (16 + 4 * k)))) 13 (mR 1 4 (fun k => some (34 + 2 * k)))
theorem arrV_c {cA : ClassId} {n : Nat} {f g : Nat → Value} (h : ∀ j, j < n → f j = g j) : arrV cA n f = arrV cA n g := by
  unfold arrV
  rw [show (fun j : Fin n => f ↑j) = (fun j : Fin n => g ↑j) from funext fun j => h j j.isLt]
theorem wln_ref {K : KX} {n t N : Nat} {μ : Int → ME} {H : Heap} {a : Int} {f g : Int → Option Int} (ha : 0 ≤ a ∧ a < (n : Int)) (hm : μ a = mR t N f) (hfg : ∀ j : Nat, j < N → f (j : Int) = g (j : Int)) (hP : va_P K.2.1 classes (wln K n μ) H) : va_P K.2.1 classes (wln K n (mup μ a (mR t N g))) H := by
  rw [← wln_set ha]
  have hw : (wln K n μ)[a.toNat]? = some (kad K a, eM K (mR t N f)) := by rw [wln_at μ ha, hm]
  refine hP.set (wln_D K n μ) hw ?_ (fun _ _ => rfl)
  have h := hP _ _ hw
  show H[kad K a]? = some (vp_cell _ _)
  have h' : H[kad K a]? = some (vp_cell (K.2.2.1 (t + 1)) (N, .inr (.inr (.inr (.inr (fun j : Nat => (f (j : Int)).map (kad K))))))) := h
  rw [h', vp_cell_q, vp_cell_q]
  congr 1
  exact arrV_c (fun j hj => by rw [hfg j hj])

theorem M5_lt {μ : Int → ME} {a : Int} (h : a < 42) : M5 μ a = μ a := by
  unfold M5
  (repeat refine mg_n (by omega) ?_)
  rfl
set_option maxHeartbeats 4000000 in
set_option maxRecDepth 100000 in
theorem m6_0 (μ : Int → ME) : M6 μ 0 = mO 4 [vR 1, vI 0, vR 2, vI 0, vI 0, vR 3, vR 4, vR 5, vR 9, vR 10, vR 11, vR 12, vI 0, vR 13, vI 0, vI 0] := by
  refine (M5_lt (by decide)).trans (mg_n (by decide) ?_)
  unfold M4
  (repeat refine mg_n (by decide) ?_)
  exact mup_s _ _ _
set_option maxHeartbeats 4000000 in
set_option maxRecDepth 100000 in
theorem m6_1 (μ : Int → ME) : M6 μ 1 = mA 6 (fun _ => 0) := by
  refine (M5_lt (by decide)).trans (mg_n (by decide) ?_)
  unfold M4
  (repeat refine mg_n (by decide) ?_)
  exact mup_s _ _ _
set_option maxHeartbeats 4000000 in
set_option maxRecDepth 100000 in
theorem m6_2 (μ : Int → ME) : M6 μ 2 = mR 0 5 (fuo (fuo (fuo (fuo (fuo (fun _ => none) 0 14) 1 18) 2 22) 3 26) 4 30) := by
  refine (M5_lt (by decide)).trans (mg_n (by decide) ?_)
  unfold M4
  (repeat refine mg_n (by decide) ?_)
  exact mup_s _ _ _
set_option maxHeartbeats 4000000 in
set_option maxRecDepth 100000 in
theorem m6_3 (μ : Int → ME) : M6 μ 3 = mR 0 5 (fuo (fuo (fuo (fuo (fuo (fun _ => none) 0 16) 1 20) 2 24) 3 28) 4 32) := by
  refine (M5_lt (by decide)).trans (mg_n (by decide) ?_)
  unfold M4
  (repeat refine mg_n (by decide) ?_)
  exact mup_s _ _ _
set_option maxHeartbeats 4000000 in
set_option maxRecDepth 100000 in
theorem m6_4 (μ : Int → ME) : M6 μ 4 = mO 3 [vI 0, vI 0, vI 0] := by
  refine (M5_lt (by decide)).trans (mg_n (by decide) ?_)
  unfold M4
  (repeat refine mg_n (by decide) ?_)
  exact mup_s _ _ _
set_option maxHeartbeats 4000000 in
set_option maxRecDepth 100000 in
theorem m6_5 (μ : Int → ME) : M6 μ 5 = mO 2 [vI 0, vI 0, vR 6, vR 7, vR 8] := by
  refine (M5_lt (by decide)).trans (mg_n (by decide) ?_)
  unfold M4
  (repeat refine mg_n (by decide) ?_)
  exact mup_s _ _ _
set_option maxHeartbeats 4000000 in
set_option maxRecDepth 100000 in
theorem m6_6 (μ : Int → ME) : M6 μ 6 = mA 4 (fun _ => 0) := by
  refine (M5_lt (by decide)).trans (mg_n (by decide) ?_)
  unfold M4
  (repeat refine mg_n (by decide) ?_)
  exact mup_s _ _ _
set_option maxHeartbeats 4000000 in
set_option maxRecDepth 100000 in
theorem m6_7 (μ : Int → ME) : M6 μ 7 = mA 4 (fun _ => 0) := by
  refine (M5_lt (by decide)).trans (mg_n (by decide) ?_)
  unfold M4
  (repeat refine mg_n (by decide) ?_)
  exact mup_s _ _ _
set_option maxHeartbeats 4000000 in
set_option maxRecDepth 100000 in
theorem m6_8 (μ : Int → ME) : M6 μ 8 = mA 4 (fun _ => 0) := by
  refine (M5_lt (by decide)).trans (mg_n (by decide) ?_)
  unfold M4
  (repeat refine mg_n (by decide) ?_)
  exact mup_s _ _ _
set_option maxHeartbeats 4000000 in
set_option maxRecDepth 100000 in
theorem m6_9 (μ : Int → ME) : M6 μ 9 = mA 4 (fun _ => 0) := by
  refine (M5_lt (by decide)).trans (mg_n (by decide) ?_)
  unfold M4
  (repeat refine mg_n (by decide) ?_)
  exact mup_s _ _ _
set_option maxHeartbeats 4000000 in
set_option maxRecDepth 100000 in
theorem m6_10 (μ : Int → ME) : M6 μ 10 = mA 8 (fun _ => 0) := by
  refine (M5_lt (by decide)).trans (mg_n (by decide) ?_)
  unfold M4
  (repeat refine mg_n (by decide) ?_)
  exact mup_s _ _ _
set_option maxHeartbeats 4000000 in
set_option maxRecDepth 100000 in
theorem m6_11 (μ : Int → ME) : M6 μ 11 = mA 8 (fun _ => 0) := by
  refine (M5_lt (by decide)).trans (mg_n (by decide) ?_)
  unfold M4
  (repeat refine mg_n (by decide) ?_)
  exact mup_s _ _ _
set_option maxHeartbeats 4000000 in
set_option maxRecDepth 100000 in
theorem m6_12 (μ : Int → ME) : M6 μ 12 = mA 8 (fun _ => 0) := by
  refine (M5_lt (by decide)).trans (mg_n (by decide) ?_)
  unfold M4
  (repeat refine mg_n (by decide) ?_)
  exact mup_s _ _ _
set_option maxHeartbeats 4000000 in
set_option maxRecDepth 100000 in
theorem m6_13 (μ : Int → ME) : M6 μ 13 = mR 1 4 (fuo (fuo (fuo (fuo (fun _ => none) 0 34) 1 36) 2 38) 3 40) := by
  refine (M5_lt (by decide)).trans (mg_n (by decide) ?_)
  unfold M4
  (repeat refine mg_n (by decide) ?_)
  exact mup_s _ _ _
set_option maxHeartbeats 4000000 in
set_option maxRecDepth 100000 in
theorem m6_14 (μ : Int → ME) : M6 μ 14 = mO 1 [vI 0, vI 0, vI 0, vI 0, vR 15] := by
  refine (M5_lt (by decide)).trans (mg_n (by decide) ?_)
  unfold M4
  (repeat refine mg_n (by decide) ?_)
  exact mup_s _ _ _
set_option maxHeartbeats 4000000 in
set_option maxRecDepth 100000 in
theorem m6_15 (μ : Int → ME) : M6 μ 15 = mA 4 (fun _ => 0) := by
  refine (M5_lt (by decide)).trans (mg_n (by decide) ?_)
  unfold M4
  (repeat refine mg_n (by decide) ?_)
  exact mup_s _ _ _
set_option maxHeartbeats 4000000 in
set_option maxRecDepth 100000 in
theorem m6_16 (μ : Int → ME) : M6 μ 16 = mO 1 [vI 0, vI 0, vI 0, vI 0, vR 17] := by
  refine (M5_lt (by decide)).trans (mg_n (by decide) ?_)
  unfold M4
  (repeat refine mg_n (by decide) ?_)
  exact mup_s _ _ _
set_option maxHeartbeats 4000000 in
set_option maxRecDepth 100000 in
theorem m6_17 (μ : Int → ME) : M6 μ 17 = mA 4 (fun _ => 0) := by
  refine (M5_lt (by decide)).trans (mg_n (by decide) ?_)
  unfold M4
  (repeat refine mg_n (by decide) ?_)
  exact mup_s _ _ _
set_option maxHeartbeats 4000000 in
set_option maxRecDepth 100000 in
theorem m6_18 (μ : Int → ME) : M6 μ 18 = mO 1 [vI 0, vI 0, vI 0, vI 0, vR 19] := by
  refine (M5_lt (by decide)).trans (mg_n (by decide) ?_)
  unfold M4
  (repeat refine mg_n (by decide) ?_)
  exact mup_s _ _ _
set_option maxHeartbeats 4000000 in
set_option maxRecDepth 100000 in
theorem m6_19 (μ : Int → ME) : M6 μ 19 = mA 4 (fun _ => 0) := by
  refine (M5_lt (by decide)).trans (mg_n (by decide) ?_)
  unfold M4
  (repeat refine mg_n (by decide) ?_)
  exact mup_s _ _ _
set_option maxHeartbeats 4000000 in
set_option maxRecDepth 100000 in
theorem m6_20 (μ : Int → ME) : M6 μ 20 = mO 1 [vI 0, vI 0, vI 0, vI 0, vR 21] := by
  refine (M5_lt (by decide)).trans (mg_n (by decide) ?_)
  unfold M4
  (repeat refine mg_n (by decide) ?_)
  exact mup_s _ _ _
set_option maxHeartbeats 4000000 in
set_option maxRecDepth 100000 in
theorem m6_21 (μ : Int → ME) : M6 μ 21 = mA 4 (fun _ => 0) := by
  refine (M5_lt (by decide)).trans (mg_n (by decide) ?_)
  unfold M4
  (repeat refine mg_n (by decide) ?_)
  exact mup_s _ _ _
set_option maxHeartbeats 4000000 in
set_option maxRecDepth 100000 in
theorem m6_22 (μ : Int → ME) : M6 μ 22 = mO 1 [vI 0, vI 0, vI 0, vI 0, vR 23] := by
  refine (M5_lt (by decide)).trans (mg_n (by decide) ?_)
  unfold M4
  (repeat refine mg_n (by decide) ?_)
  exact mup_s _ _ _
set_option maxHeartbeats 4000000 in
set_option maxRecDepth 100000 in
theorem m6_23 (μ : Int → ME) : M6 μ 23 = mA 4 (fun _ => 0) := by
  refine (M5_lt (by decide)).trans (mg_n (by decide) ?_)
  unfold M4
  (repeat refine mg_n (by decide) ?_)
  exact mup_s _ _ _
set_option maxHeartbeats 4000000 in
set_option maxRecDepth 100000 in
theorem m6_24 (μ : Int → ME) : M6 μ 24 = mO 1 [vI 0, vI 0, vI 0, vI 0, vR 25] := by
  refine (M5_lt (by decide)).trans (mg_n (by decide) ?_)
  unfold M4
  (repeat refine mg_n (by decide) ?_)
  exact mup_s _ _ _
set_option maxHeartbeats 4000000 in
set_option maxRecDepth 100000 in
theorem m6_25 (μ : Int → ME) : M6 μ 25 = mA 4 (fun _ => 0) := by
  refine (M5_lt (by decide)).trans (mg_n (by decide) ?_)
  unfold M4
  (repeat refine mg_n (by decide) ?_)
  exact mup_s _ _ _
set_option maxHeartbeats 4000000 in
set_option maxRecDepth 100000 in
theorem m6_26 (μ : Int → ME) : M6 μ 26 = mO 1 [vI 0, vI 0, vI 0, vI 0, vR 27] := by
  refine (M5_lt (by decide)).trans (mg_n (by decide) ?_)
  unfold M4
  (repeat refine mg_n (by decide) ?_)
  exact mup_s _ _ _
set_option maxHeartbeats 4000000 in
set_option maxRecDepth 100000 in
theorem m6_27 (μ : Int → ME) : M6 μ 27 = mA 4 (fun _ => 0) := by
  refine (M5_lt (by decide)).trans (mg_n (by decide) ?_)
  unfold M4
  (repeat refine mg_n (by decide) ?_)
  exact mup_s _ _ _
set_option maxHeartbeats 4000000 in
set_option maxRecDepth 100000 in
theorem m6_28 (μ : Int → ME) : M6 μ 28 = mO 1 [vI 0, vI 0, vI 0, vI 0, vR 29] := by
  refine (M5_lt (by decide)).trans (mg_n (by decide) ?_)
  unfold M4
  (repeat refine mg_n (by decide) ?_)
  exact mup_s _ _ _
set_option maxHeartbeats 4000000 in
set_option maxRecDepth 100000 in
theorem m6_29 (μ : Int → ME) : M6 μ 29 = mA 4 (fun _ => 0) := by
  refine (M5_lt (by decide)).trans (mg_n (by decide) ?_)
  unfold M4
  (repeat refine mg_n (by decide) ?_)
  exact mup_s _ _ _
set_option maxHeartbeats 4000000 in
set_option maxRecDepth 100000 in
theorem m6_30 (μ : Int → ME) : M6 μ 30 = mO 1 [vI 0, vI 0, vI 0, vI 0, vR 31] := by
  refine (M5_lt (by decide)).trans (mg_n (by decide) ?_)
  unfold M4
  (repeat refine mg_n (by decide) ?_)
  exact mup_s _ _ _
set_option maxHeartbeats 4000000 in
set_option maxRecDepth 100000 in
theorem m6_31 (μ : Int → ME) : M6 μ 31 = mA 4 (fun _ => 0) := by
  refine (M5_lt (by decide)).trans (mg_n (by decide) ?_)
  unfold M4
  (repeat refine mg_n (by decide) ?_)
  exact mup_s _ _ _
set_option maxHeartbeats 4000000 in
set_option maxRecDepth 100000 in
theorem m6_32 (μ : Int → ME) : M6 μ 32 = mO 1 [vI 0, vI 0, vI 0, vI 0, vR 33] := by
  refine (M5_lt (by decide)).trans (mg_n (by decide) ?_)
  unfold M4
  (repeat refine mg_n (by decide) ?_)
  exact mup_s _ _ _
set_option maxHeartbeats 4000000 in
set_option maxRecDepth 100000 in
theorem m6_33 (μ : Int → ME) : M6 μ 33 = mA 4 (fun _ => 0) := by
  refine (M5_lt (by decide)).trans (mg_n (by decide) ?_)
  unfold M4
  (repeat refine mg_n (by decide) ?_)
  exact mup_s _ _ _
set_option maxHeartbeats 4000000 in
set_option maxRecDepth 100000 in
theorem m6_34 (μ : Int → ME) : M6 μ 34 = mO 0 [vI 0, vI 0, vI 0, vR 35] := by
  refine (M5_lt (by decide)).trans (mg_n (by decide) ?_)
  unfold M4
  (repeat refine mg_n (by decide) ?_)
  exact mup_s _ _ _
set_option maxHeartbeats 4000000 in
set_option maxRecDepth 100000 in
theorem m6_35 (μ : Int → ME) : M6 μ 35 = mA 60 (fun _ => 0) := by
  refine (M5_lt (by decide)).trans (mg_n (by decide) ?_)
  unfold M4
  (repeat refine mg_n (by decide) ?_)
  exact mup_s _ _ _
set_option maxHeartbeats 4000000 in
set_option maxRecDepth 100000 in
theorem m6_36 (μ : Int → ME) : M6 μ 36 = mO 0 [vI 0, vI 0, vI 0, vR 37] := by
  refine (M5_lt (by decide)).trans (mg_n (by decide) ?_)
  unfold M4
  (repeat refine mg_n (by decide) ?_)
  exact mup_s _ _ _
set_option maxHeartbeats 4000000 in
set_option maxRecDepth 100000 in
theorem m6_37 (μ : Int → ME) : M6 μ 37 = mA 60 (fun _ => 0) := by
  refine (M5_lt (by decide)).trans (mg_n (by decide) ?_)
  unfold M4
  (repeat refine mg_n (by decide) ?_)
  exact mup_s _ _ _
set_option maxHeartbeats 4000000 in
set_option maxRecDepth 100000 in
theorem m6_38 (μ : Int → ME) : M6 μ 38 = mO 0 [vI 0, vI 0, vI 0, vR 39] := by
  refine (M5_lt (by decide)).trans (mg_n (by decide) ?_)
  unfold M4
  (repeat refine mg_n (by decide) ?_)
  exact mup_s _ _ _
set_option maxHeartbeats 4000000 in
set_option maxRecDepth 100000 in
theorem m6_39 (μ : Int → ME) : M6 μ 39 = mA 60 (fun _ => 0) := by
  refine (M5_lt (by decide)).trans (mg_n (by decide) ?_)
  unfold M4
  (repeat refine mg_n (by decide) ?_)
  exact mup_s _ _ _
set_option maxHeartbeats 4000000 in
set_option maxRecDepth 100000 in
theorem m6_40 (μ : Int → ME) : M6 μ 40 = mO 0 [vI 0, vI 0, vI 0, vR 41] := by
  refine (M5_lt (by decide)).trans (mg_n (by decide) ?_)
  unfold M4
  (repeat refine mg_n (by decide) ?_)
  exact mup_s _ _ _
set_option maxHeartbeats 4000000 in
set_option maxRecDepth 100000 in
theorem m6_41 (μ : Int → ME) : M6 μ 41 = mA 60 (fun _ => 0) := by
  refine (M5_lt (by decide)).trans (mg_n (by decide) ?_)
  unfold M4
  (repeat refine mg_n (by decide) ?_)
  exact mup_s _ _ _
set_option maxHeartbeats 4000000 in
set_option maxRecDepth 100000 in
theorem m6_42 (μ : Int → ME) : M6 μ 42 = mO 5 [vI 0, vI 0, vR 43, vR 44, vR 45, vI 0, vI 0, vI 0, vR 46, vR 47, vR 48, vR 49, vR 50, vR 51, vI 0, vI 0, vI 0, vR 52, vR 53, vR 54, vR 55, vI 0, vI 0, vI 0, vR 56, vI 0, vI 0, vI 0, vR 57, vR 58, vR 59] := by
  unfold M6 M5
  (repeat refine mg_n (by decide) ?_)
  exact mup_s _ _ _
set_option maxHeartbeats 4000000 in
set_option maxRecDepth 100000 in
theorem m6_43 (μ : Int → ME) : M6 μ 43 = mA 4 (fup (fup (fup (fup (fun _ => 0) 0 (-9)) 1 (-9)) 2 (-9)) 3 (-9)) := by
  unfold M6 M5
  (repeat refine mg_n (by decide) ?_)
  exact mup_s _ _ _
set_option maxHeartbeats 4000000 in
set_option maxRecDepth 100000 in
theorem m6_44 (μ : Int → ME) : M6 μ 44 = mA 4 (fun _ => 0) := by
  unfold M6 M5
  (repeat refine mg_n (by decide) ?_)
  exact mup_s _ _ _
set_option maxHeartbeats 4000000 in
set_option maxRecDepth 100000 in
theorem m6_45 (μ : Int → ME) : M6 μ 45 = mA 240 (fun _ => 0) := by
  unfold M6 M5
  (repeat refine mg_n (by decide) ?_)
  exact mup_s _ _ _
set_option maxHeartbeats 4000000 in
set_option maxRecDepth 100000 in
theorem m6_46 (μ : Int → ME) : M6 μ 46 = mA 6 (fun _ => 0) := by
  unfold M6 M5
  (repeat refine mg_n (by decide) ?_)
  exact mup_s _ _ _
set_option maxHeartbeats 4000000 in
set_option maxRecDepth 100000 in
theorem m6_47 (μ : Int → ME) : M6 μ 47 = mA 5 (fun _ => 0) := by
  unfold M6 M5
  (repeat refine mg_n (by decide) ?_)
  exact mup_s _ _ _
set_option maxHeartbeats 4000000 in
set_option maxRecDepth 100000 in
theorem m6_48 (μ : Int → ME) : M6 μ 48 = mA 5 (fun _ => 0) := by
  unfold M6 M5
  (repeat refine mg_n (by decide) ?_)
  exact mup_s _ _ _
set_option maxHeartbeats 4000000 in
set_option maxRecDepth 100000 in
theorem m6_49 (μ : Int → ME) : M6 μ 49 = mA 5 (fun _ => 0) := by
  unfold M6 M5
  (repeat refine mg_n (by decide) ?_)
  exact mup_s _ _ _
set_option maxHeartbeats 4000000 in
set_option maxRecDepth 100000 in
theorem m6_50 (μ : Int → ME) : M6 μ 50 = mA 5 (fun _ => 0) := by
  unfold M6 M5
  (repeat refine mg_n (by decide) ?_)
  exact mup_s _ _ _
set_option maxHeartbeats 4000000 in
set_option maxRecDepth 100000 in
theorem m6_51 (μ : Int → ME) : M6 μ 51 = mA 20 (fun _ => 0) := by
  unfold M6 M5
  (repeat refine mg_n (by decide) ?_)
  exact mup_s _ _ _
set_option maxHeartbeats 4000000 in
set_option maxRecDepth 100000 in
theorem m6_52 (μ : Int → ME) : M6 μ 52 = mA 6 (fun _ => 0) := by
  unfold M6 M5
  (repeat refine mg_n (by decide) ?_)
  exact mup_s _ _ _
set_option maxHeartbeats 4000000 in
set_option maxRecDepth 100000 in
theorem m6_53 (μ : Int → ME) : M6 μ 53 = mA 40 (fun _ => 0) := by
  unfold M6 M5
  (repeat refine mg_n (by decide) ?_)
  exact mup_s _ _ _
set_option maxHeartbeats 4000000 in
set_option maxRecDepth 100000 in
theorem m6_54 (μ : Int → ME) : M6 μ 54 = mA 5 (fun _ => 0) := by
  unfold M6 M5
  (repeat refine mg_n (by decide) ?_)
  exact mup_s _ _ _
set_option maxHeartbeats 4000000 in
set_option maxRecDepth 100000 in
theorem m6_55 (μ : Int → ME) : M6 μ 55 = mA 20 (fun _ => 0) := by
  unfold M6 M5
  (repeat refine mg_n (by decide) ?_)
  exact mup_s _ _ _
set_option maxHeartbeats 4000000 in
set_option maxRecDepth 100000 in
theorem m6_56 (μ : Int → ME) : M6 μ 56 = mA 4 (fun _ => 0) := by
  unfold M6 M5
  (repeat refine mg_n (by decide) ?_)
  exact mup_s _ _ _
set_option maxHeartbeats 4000000 in
set_option maxRecDepth 100000 in
theorem m6_57 (μ : Int → ME) : M6 μ 57 = mA 8 (fun _ => 0) := by
  unfold M6 M5
  (repeat refine mg_n (by decide) ?_)
  exact mup_s _ _ _
set_option maxHeartbeats 4000000 in
set_option maxRecDepth 100000 in
theorem m6_58 (μ : Int → ME) : M6 μ 58 = mA 8 (fun _ => 0) := by
  unfold M6 M5
  (repeat refine mg_n (by decide) ?_)
  exact mup_s _ _ _
set_option maxHeartbeats 4000000 in
set_option maxRecDepth 100000 in
theorem m6_59 (μ : Int → ME) : M6 μ 59 = mA 8 (fun _ => 0) := by
  unfold M6 M5
  (repeat refine mg_n (by decide) ?_)
  exact mup_s _ _ _
theorem m7_0 (μ : Int → ME) : M7 μ 0 = mO 4 [vR 1, vI 0, vR 2, vI 0, vI 0, vR 3, vR 4, vR 5, vR 9, vR 10, vR 11, vR 12, vI 0, vR 13, vI 0, vI 0] := mg_n (by decide) (mg_n (by decide) (mg_n (by decide) (m6_0 μ)))
theorem m7_1 (μ : Int → ME) : M7 μ 1 = mA 6 (fun _ => 0) := mg_n (by decide) (mg_n (by decide) (mg_n (by decide) (m6_1 μ)))
theorem m7_2 (μ : Int → ME) : M7 μ 2 = mR 0 5 (fun k => some (14 + 4 * k)) := mg_n (by decide) (mg_n (by decide) (mup_s _ _ _))
theorem m7_3 (μ : Int → ME) : M7 μ 3 = mR 0 5 (fun k => some (16 + 4 * k)) := mg_n (by decide) (mup_s _ _ _)
theorem m7_4 (μ : Int → ME) : M7 μ 4 = mO 3 [vI 0, vI 0, vI 0] := mg_n (by decide) (mg_n (by decide) (mg_n (by decide) (m6_4 μ)))
theorem m7_5 (μ : Int → ME) : M7 μ 5 = mO 2 [vI 0, vI 0, vR 6, vR 7, vR 8] := mg_n (by decide) (mg_n (by decide) (mg_n (by decide) (m6_5 μ)))
theorem m7_6 (μ : Int → ME) : M7 μ 6 = mA 4 (fun _ => 0) := mg_n (by decide) (mg_n (by decide) (mg_n (by decide) (m6_6 μ)))
theorem m7_7 (μ : Int → ME) : M7 μ 7 = mA 4 (fun _ => 0) := mg_n (by decide) (mg_n (by decide) (mg_n (by decide) (m6_7 μ)))
theorem m7_8 (μ : Int → ME) : M7 μ 8 = mA 4 (fun _ => 0) := mg_n (by decide) (mg_n (by decide) (mg_n (by decide) (m6_8 μ)))
theorem m7_9 (μ : Int → ME) : M7 μ 9 = mA 4 (fun _ => 0) := mg_n (by decide) (mg_n (by decide) (mg_n (by decide) (m6_9 μ)))
theorem m7_10 (μ : Int → ME) : M7 μ 10 = mA 8 (fun _ => 0) := mg_n (by decide) (mg_n (by decide) (mg_n (by decide) (m6_10 μ)))
theorem m7_11 (μ : Int → ME) : M7 μ 11 = mA 8 (fun _ => 0) := mg_n (by decide) (mg_n (by decide) (mg_n (by decide) (m6_11 μ)))
theorem m7_12 (μ : Int → ME) : M7 μ 12 = mA 8 (fun _ => 0) := mg_n (by decide) (mg_n (by decide) (mg_n (by decide) (m6_12 μ)))
theorem m7_13 (μ : Int → ME) : M7 μ 13 = mR 1 4 (fun k => some (34 + 2 * k)) := mup_s _ _ _
theorem m7_14 (μ : Int → ME) : M7 μ 14 = mO 1 [vI 0, vI 0, vI 0, vI 0, vR 15] := mg_n (by decide) (mg_n (by decide) (mg_n (by decide) (m6_14 μ)))
theorem m7_15 (μ : Int → ME) : M7 μ 15 = mA 4 (fun _ => 0) := mg_n (by decide) (mg_n (by decide) (mg_n (by decide) (m6_15 μ)))
theorem m7_16 (μ : Int → ME) : M7 μ 16 = mO 1 [vI 0, vI 0, vI 0, vI 0, vR 17] := mg_n (by decide) (mg_n (by decide) (mg_n (by decide) (m6_16 μ)))
theorem m7_17 (μ : Int → ME) : M7 μ 17 = mA 4 (fun _ => 0) := mg_n (by decide) (mg_n (by decide) (mg_n (by decide) (m6_17 μ)))
theorem m7_18 (μ : Int → ME) : M7 μ 18 = mO 1 [vI 0, vI 0, vI 0, vI 0, vR 19] := mg_n (by decide) (mg_n (by decide) (mg_n (by decide) (m6_18 μ)))
theorem m7_19 (μ : Int → ME) : M7 μ 19 = mA 4 (fun _ => 0) := mg_n (by decide) (mg_n (by decide) (mg_n (by decide) (m6_19 μ)))
theorem m7_20 (μ : Int → ME) : M7 μ 20 = mO 1 [vI 0, vI 0, vI 0, vI 0, vR 21] := mg_n (by decide) (mg_n (by decide) (mg_n (by decide) (m6_20 μ)))
theorem m7_21 (μ : Int → ME) : M7 μ 21 = mA 4 (fun _ => 0) := mg_n (by decide) (mg_n (by decide) (mg_n (by decide) (m6_21 μ)))
theorem m7_22 (μ : Int → ME) : M7 μ 22 = mO 1 [vI 0, vI 0, vI 0, vI 0, vR 23] := mg_n (by decide) (mg_n (by decide) (mg_n (by decide) (m6_22 μ)))
theorem m7_23 (μ : Int → ME) : M7 μ 23 = mA 4 (fun _ => 0) := mg_n (by decide) (mg_n (by decide) (mg_n (by decide) (m6_23 μ)))
theorem m7_24 (μ : Int → ME) : M7 μ 24 = mO 1 [vI 0, vI 0, vI 0, vI 0, vR 25] := mg_n (by decide) (mg_n (by decide) (mg_n (by decide) (m6_24 μ)))
theorem m7_25 (μ : Int → ME) : M7 μ 25 = mA 4 (fun _ => 0) := mg_n (by decide) (mg_n (by decide) (mg_n (by decide) (m6_25 μ)))
theorem m7_26 (μ : Int → ME) : M7 μ 26 = mO 1 [vI 0, vI 0, vI 0, vI 0, vR 27] := mg_n (by decide) (mg_n (by decide) (mg_n (by decide) (m6_26 μ)))
theorem m7_27 (μ : Int → ME) : M7 μ 27 = mA 4 (fun _ => 0) := mg_n (by decide) (mg_n (by decide) (mg_n (by decide) (m6_27 μ)))
theorem m7_28 (μ : Int → ME) : M7 μ 28 = mO 1 [vI 0, vI 0, vI 0, vI 0, vR 29] := mg_n (by decide) (mg_n (by decide) (mg_n (by decide) (m6_28 μ)))
theorem m7_29 (μ : Int → ME) : M7 μ 29 = mA 4 (fun _ => 0) := mg_n (by decide) (mg_n (by decide) (mg_n (by decide) (m6_29 μ)))
theorem m7_30 (μ : Int → ME) : M7 μ 30 = mO 1 [vI 0, vI 0, vI 0, vI 0, vR 31] := mg_n (by decide) (mg_n (by decide) (mg_n (by decide) (m6_30 μ)))
theorem m7_31 (μ : Int → ME) : M7 μ 31 = mA 4 (fun _ => 0) := mg_n (by decide) (mg_n (by decide) (mg_n (by decide) (m6_31 μ)))
theorem m7_32 (μ : Int → ME) : M7 μ 32 = mO 1 [vI 0, vI 0, vI 0, vI 0, vR 33] := mg_n (by decide) (mg_n (by decide) (mg_n (by decide) (m6_32 μ)))
theorem m7_33 (μ : Int → ME) : M7 μ 33 = mA 4 (fun _ => 0) := mg_n (by decide) (mg_n (by decide) (mg_n (by decide) (m6_33 μ)))
theorem m7_34 (μ : Int → ME) : M7 μ 34 = mO 0 [vI 0, vI 0, vI 0, vR 35] := mg_n (by decide) (mg_n (by decide) (mg_n (by decide) (m6_34 μ)))
theorem m7_35 (μ : Int → ME) : M7 μ 35 = mA 60 (fun _ => 0) := mg_n (by decide) (mg_n (by decide) (mg_n (by decide) (m6_35 μ)))
theorem m7_36 (μ : Int → ME) : M7 μ 36 = mO 0 [vI 0, vI 0, vI 0, vR 37] := mg_n (by decide) (mg_n (by decide) (mg_n (by decide) (m6_36 μ)))
theorem m7_37 (μ : Int → ME) : M7 μ 37 = mA 60 (fun _ => 0) := mg_n (by decide) (mg_n (by decide) (mg_n (by decide) (m6_37 μ)))
theorem m7_38 (μ : Int → ME) : M7 μ 38 = mO 0 [vI 0, vI 0, vI 0, vR 39] := mg_n (by decide) (mg_n (by decide) (mg_n (by decide) (m6_38 μ)))
theorem m7_39 (μ : Int → ME) : M7 μ 39 = mA 60 (fun _ => 0) := mg_n (by decide) (mg_n (by decide) (mg_n (by decide) (m6_39 μ)))
theorem m7_40 (μ : Int → ME) : M7 μ 40 = mO 0 [vI 0, vI 0, vI 0, vR 41] := mg_n (by decide) (mg_n (by decide) (mg_n (by decide) (m6_40 μ)))
theorem m7_41 (μ : Int → ME) : M7 μ 41 = mA 60 (fun _ => 0) := mg_n (by decide) (mg_n (by decide) (mg_n (by decide) (m6_41 μ)))
theorem m7_42 (μ : Int → ME) : M7 μ 42 = mO 5 [vI 0, vI 0, vR 43, vR 44, vR 45, vI 0, vI 0, vI 0, vR 46, vR 47, vR 48, vR 49, vR 50, vR 51, vI 0, vI 0, vI 0, vR 52, vR 53, vR 54, vR 55, vI 0, vI 0, vI 0, vR 56, vI 0, vI 0, vI 0, vR 57, vR 58, vR 59] := mg_n (by decide) (mg_n (by decide) (mg_n (by decide) (m6_42 μ)))
theorem m7_43 (μ : Int → ME) : M7 μ 43 = mA 4 (fup (fup (fup (fup (fun _ => 0) 0 (-9)) 1 (-9)) 2 (-9)) 3 (-9)) := mg_n (by decide) (mg_n (by decide) (mg_n (by decide) (m6_43 μ)))
theorem m7_44 (μ : Int → ME) : M7 μ 44 = mA 4 (fun _ => 0) := mg_n (by decide) (mg_n (by decide) (mg_n (by decide) (m6_44 μ)))
theorem m7_45 (μ : Int → ME) : M7 μ 45 = mA 240 (fun _ => 0) := mg_n (by decide) (mg_n (by decide) (mg_n (by decide) (m6_45 μ)))
theorem m7_46 (μ : Int → ME) : M7 μ 46 = mA 6 (fun _ => 0) := mg_n (by decide) (mg_n (by decide) (mg_n (by decide) (m6_46 μ)))
theorem m7_47 (μ : Int → ME) : M7 μ 47 = mA 5 (fun _ => 0) := mg_n (by decide) (mg_n (by decide) (mg_n (by decide) (m6_47 μ)))
theorem m7_48 (μ : Int → ME) : M7 μ 48 = mA 5 (fun _ => 0) := mg_n (by decide) (mg_n (by decide) (mg_n (by decide) (m6_48 μ)))
theorem m7_49 (μ : Int → ME) : M7 μ 49 = mA 5 (fun _ => 0) := mg_n (by decide) (mg_n (by decide) (mg_n (by decide) (m6_49 μ)))
theorem m7_50 (μ : Int → ME) : M7 μ 50 = mA 5 (fun _ => 0) := mg_n (by decide) (mg_n (by decide) (mg_n (by decide) (m6_50 μ)))
theorem m7_51 (μ : Int → ME) : M7 μ 51 = mA 20 (fun _ => 0) := mg_n (by decide) (mg_n (by decide) (mg_n (by decide) (m6_51 μ)))
theorem m7_52 (μ : Int → ME) : M7 μ 52 = mA 6 (fun _ => 0) := mg_n (by decide) (mg_n (by decide) (mg_n (by decide) (m6_52 μ)))
theorem m7_53 (μ : Int → ME) : M7 μ 53 = mA 40 (fun _ => 0) := mg_n (by decide) (mg_n (by decide) (mg_n (by decide) (m6_53 μ)))
theorem m7_54 (μ : Int → ME) : M7 μ 54 = mA 5 (fun _ => 0) := mg_n (by decide) (mg_n (by decide) (mg_n (by decide) (m6_54 μ)))
theorem m7_55 (μ : Int → ME) : M7 μ 55 = mA 20 (fun _ => 0) := mg_n (by decide) (mg_n (by decide) (mg_n (by decide) (m6_55 μ)))
theorem m7_56 (μ : Int → ME) : M7 μ 56 = mA 4 (fun _ => 0) := mg_n (by decide) (mg_n (by decide) (mg_n (by decide) (m6_56 μ)))
theorem m7_57 (μ : Int → ME) : M7 μ 57 = mA 8 (fun _ => 0) := mg_n (by decide) (mg_n (by decide) (mg_n (by decide) (m6_57 μ)))
theorem m7_58 (μ : Int → ME) : M7 μ 58 = mA 8 (fun _ => 0) := mg_n (by decide) (mg_n (by decide) (mg_n (by decide) (m6_58 μ)))
theorem m7_59 (μ : Int → ME) : M7 μ 59 = mA 8 (fun _ => 0) := mg_n (by decide) (mg_n (by decide) (mg_n (by decide) (m6_59 μ)))
set_option maxHeartbeats 4000000 in
set_option maxRecDepth 100000 in
theorem inv_0 (μ : Int → ME) : INV (M7 μ) := by
  refine ⟨0, 0, 0, 0, 0, 0, (fun _ => 0), (fun _ => 0), (fun _ => 0), (fun _ => 0), (fun _ => 0), (fun _ _ => 0), (fun _ => 0), (fun _ => 0), (fun _ => 0), (fun _ => 0), (fun _ => 0), (fun _ => 0), (fun _ _ => 0), ?_, ?_, ?_⟩
  · refine ⟨⟨m7_0 μ, m7_1 μ, m7_2 μ, m7_3 μ⟩, ⟨⟨0, 0, 0, m7_4 μ⟩, ⟨0, 0, m7_5 μ⟩, ⟨_, m7_6 μ⟩, ⟨_, m7_7 μ⟩, ⟨_, m7_8 μ⟩, ⟨_, m7_9 μ⟩⟩, ⟨m7_10 μ, m7_11 μ, m7_12 μ, m7_13 μ⟩, fun k k0 k1 => ?_, fun k k0 k1 => ?_, fun k k0 k1 => ?_⟩
    · rcases (show k = 0 ∨ k = 1 ∨ k = 2 ∨ k = 3 ∨ k = 4 by omega) with rfl | rfl | rfl | rfl | rfl
      · exact ⟨m7_14 μ, m7_15 μ⟩
      · exact ⟨m7_18 μ, m7_19 μ⟩
      · exact ⟨m7_22 μ, m7_23 μ⟩
      · exact ⟨m7_26 μ, m7_27 μ⟩
      · exact ⟨m7_30 μ, m7_31 μ⟩
    · rcases (show k = 0 ∨ k = 1 ∨ k = 2 ∨ k = 3 ∨ k = 4 by omega) with rfl | rfl | rfl | rfl | rfl
      · exact ⟨0, 0, 0, 0, _, m7_16 μ, m7_17 μ⟩
      · exact ⟨0, 0, 0, 0, _, m7_20 μ, m7_21 μ⟩
      · exact ⟨0, 0, 0, 0, _, m7_24 μ, m7_25 μ⟩
      · exact ⟨0, 0, 0, 0, _, m7_28 μ, m7_29 μ⟩
      · exact ⟨0, 0, 0, 0, _, m7_32 μ, m7_33 μ⟩
    · rcases (show k = 0 ∨ k = 1 ∨ k = 2 ∨ k = 3 by omega) with rfl | rfl | rfl | rfl
      · exact ⟨m7_34 μ, m7_35 μ⟩
      · exact ⟨m7_36 μ, m7_37 μ⟩
      · exact ⟨m7_38 μ, m7_39 μ⟩
      · exact ⟨m7_40 μ, m7_41 μ⟩
  · refine ⟨⟨0, 0, 0, 0, 0, 0, 0, 0, m7_42 μ⟩, ⟨_, m7_43 μ, fun k k0 k1 => ?_⟩, ⟨_, m7_44 μ, fun k k0 k1 h => absurd rfl h⟩, ⟨_, m7_45 μ, fun k k0 k1 h => absurd rfl h⟩, ⟨⟨_, m7_46 μ, fun p _ _ => rfl⟩, ⟨_, m7_47 μ, fun p _ _ => rfl⟩, ⟨_, m7_48 μ, fun p _ _ => rfl⟩, ⟨_, m7_49 μ, fun p _ _ => rfl⟩⟩, ⟨_, _, m7_50 μ, m7_51 μ, fun k k0 k1 => ⟨rfl, fun g _ _ => rfl⟩⟩, ⟨⟨_, m7_52 μ⟩, ⟨_, m7_53 μ⟩, ⟨_, m7_54 μ⟩, ⟨_, m7_55 μ⟩, ⟨_, m7_56 μ⟩⟩, ⟨_, m7_57 μ, fun i _ _ => rfl⟩, ⟨_, m7_58 μ, fun i _ _ => rfl⟩, ⟨_, m7_59 μ, fun i _ _ => rfl⟩⟩
    rcases (show k = 0 ∨ k = 1 ∨ k = 2 ∨ k = 3 by omega) with rfl | rfl | rfl | rfl <;> rfl
  · exact ⟨Or.inl ⟨rfl, rfl⟩, by omega, fun p p0 p1 => by omega, fun k k0 k1 => by omega, fun k k0 k1 => by omega, fun k k0 k1 => by omega, fun k k0 k1 => ⟨Or.inl rfl, fun h => absurd (show (0 : Int) = 1 from h) (by decide), show (0 : Int) ≤ 0 ∧ (0 : Int) ≤ 60 by decide⟩⟩

set_option maxHeartbeats 4000000 in
set_option maxRecDepth 100000 in
theorem M7_P {K : KX} {μ : Int → ME} {H : Heap} (h : va_P K.2.1 classes (wln K 60 (M6 μ)) H) : va_P K.2.1 classes (wld K (M7 μ)) H := by
  have h1 := wln_ref (g := fun k => some (14 + 4 * k)) (a := 2) (by decide) (m6_2 μ) (fun j hj => by
    rcases (show j = 0 ∨ j = 1 ∨ j = 2 ∨ j = 3 ∨ j = 4 by omega) with rfl | rfl | rfl | rfl | rfl <;> rfl) h
  have h2 := wln_ref (g := fun k => some (16 + 4 * k)) (a := 3) (by decide) (mg_n (by decide) (m6_3 μ)) (fun j hj => by
    rcases (show j = 0 ∨ j = 1 ∨ j = 2 ∨ j = 3 ∨ j = 4 by omega) with rfl | rfl | rfl | rfl | rfl <;> rfl) h1
  exact wln_ref (g := fun k => some (34 + 2 * k)) (a := 13) (by decide) (mg_n (by decide) (mg_n (by decide) (m6_13 μ))) (fun j hj => by
    rcases (show j = 0 ∨ j = 1 ∨ j = 2 ∨ j = 3 by omega) with rfl | rfl | rfl | rfl <;> rfl) h2
theorem M7_ok {K : KX} {μ : Int → ME} (h : okN 60 (M6 μ)) : okU K (M7 μ) := fun a h0 h1 => okN_mup (okN_mup (okN_mup h (o := mR 0 5 (fun k => some (14 + 4 * k))) trivial) (o := mR 0 5 (fun k => some (16 + 4 * k))) trivial) (o := mR 1 4 (fun k => some (34 + 2 * k))) trivial a h0 h1
theorem g_toPW {K : KX} {X : CX} {nL : Nat} {Q : State → Prop} {pc : Nat} {ls : List (Nat × PV)} {st : List PV} {μ : Int → ME} (h1 : X.2.2.2.2.2.2.2.2.2.1 = 60) (h2 : X.2.2.2.2.2.2.2.2.2.2 = 854) (h3 : K.2.2.2 = X.2.2.2.1.heap.size) (k : PW K X nL Q pc ls st (M7 μ)) : PG K X nL Q 60 60 854 pc ls st (M6 μ) := fun H locs la hz hP hS hl hμ hL hs => by
  refine va_forget (fun q hq => by have := hS.2.2 q hq; unfold upR at this; omega) ?_
  have h := k H [] la (M7_P hP) ⟨hS.1, fun q q1 q2 => hS.2.1 q q1 (fun hu => by unfold upR at hu; omega), fun _ h => by cases h⟩ hl (M7_ok hμ) hL hs
  rw [h1, h2] at h
  exact h
theorem nest_in : ∀ q ∈ nestW, Cond.methodLinkNest q.1 q.2.1 q.2.2.1 q.2.2.2 ∈ lw_tbl := by decide +kernel
theorem tb_ao1 : Cond.arrayOver (.object RX1) ∈ lw_tbl := by decide +kernel
theorem tb_ao0 : Cond.arrayOver (.object RX0) ∈ lw_tbl := by decide +kernel
theorem tb_gw : ∀ w ∈ GW, w ∈ lw_tbl := fun _ h => (List.mem_filter.mp h).1
theorem rm_f : 8 ≤ room_1.frames := by decide +kernel
theorem rm_l : 31 * 8 ≤ room_1.locals := by decide +kernel
theorem rm_c : 60 ≤ room_1.cells := by decide +kernel
theorem rm_s : 854 ≤ room_1.slots := by decide +kernel
theorem gw_cl_L_7 : Cond.classLink RL 7 RX4 ∈ GW := by decide +kernel
theorem gw_cl_L_10 : Cond.classLink RL 10 RX5 ∈ GW := by decide +kernel
theorem gw_ml_L_9 : Cond.methodLink RL 9 yX4_init ∈ GW := by decide +kernel
theorem gw_ml_L_12 : Cond.methodLink RL 12 yX5_init ∈ GW := by decide +kernel
/-- what the tables say of the classes, at the law's start -/
theorem kg_0 {s : State} {A : Array Value} {l : Launch} (hts : ∀ w ∈ lw_tbl, w.before A s = true) : ∃ (D : va_G) (a : Nat → ClassId), KG (l, D, a, s.heap.size) s := by
  have hgw : ∀ w ∈ GW, w.before A s = true := fun w h => hts w (tb_gw w h)
  obtain ⟨c0, i0, k0⟩ := u_known (C := RX0) (T := TX0) (N := 4) (n := 4) hgw (cls_in 0 _ rfl) (hgw _ gw_in_0)
  obtain ⟨c1, i1, k1⟩ := u_known (C := RX1) (T := TX1) (N := 5) (n := 5) hgw (cls_in 1 _ rfl) (hgw _ gw_in_1)
  obtain ⟨c2, i2, k2⟩ := u_known (C := RX2) (T := TX2) (N := 5) (n := 5) hgw (cls_in 2 _ rfl) (hgw _ gw_in_2)
  obtain ⟨c3, i3, k3⟩ := u_known (C := RX3) (T := TX3) (N := 3) (n := 3) hgw (cls_in 3 _ rfl) (hgw _ gw_in_3)
  obtain ⟨c4, i4, k4⟩ := u_known (C := RX4) (T := TX4) (N := 16) (n := 16) hgw (cls_in 4 _ rfl) (hgw _ gw_in_4)
  obtain ⟨c5, i5, k5⟩ := u_known (C := RX5) (T := TX5) (N := 31) (n := 31) hgw (cls_in 5 _ rfl) (hgw _ gw_in_5)
  obtain ⟨a0, ka0, cp0, f0, g0, h0⟩ := Cond.arrayClass_spec (hgw _ gw_ac)
  obtain ⟨cp1, a1, ka1, e1, -, f1, g1, h1⟩ := Cond.arrayOver_spec (hts _ tb_ao1)
  obtain ⟨cp2, a2, ka2, e2, -, f2, g2, h2⟩ := Cond.arrayOver_spec (hts _ tb_ao0)
  refine ⟨(fun k => match k with | 0 => c0 | 1 => c1 | 2 => c2 | 3 => c3 | 4 => c4 | _ => c5, fun k => match k with | 0 => i0 | 1 => i1 | 2 => i2 | 3 => i3 | 4 => i4 | _ => i5), fun k => match k with | 0 => a0 | 1 => a1 | _ => a2, ⟨⟨fun k q hq => ?_, fun k q hq => ?_⟩, fun q hq => va_Nw.of rfl (hts _ (nest_in q hq))⟩, va_AO.of (hts _ tb_ao1), va_AO.of (hts _ tb_ao0)⟩
  · match k, hq with
    | 0, hq => cases hq; exact k0
    | 1, hq => cases hq; exact k1
    | 2, hq => cases hq; exact k2
    | 3, hq => cases hq; exact k3
    | 4, hq => cases hq; exact k4
    | 5, hq => cases hq; exact k5
    | k + 6, hq => simp [classes] at hq
  · match k, hq with
    | 0, hq => cases hq; exact ⟨fun n z => ⟨fun k h => (by cases h), ka0, g0, cp0, h0⟩, f0⟩
    | 1, hq => cases hq; exact ⟨fun n z => ⟨fun k h => (by cases h), ka1, f1, cp1, g1⟩, ka1, cp1, f1, g1, e1, h1⟩
    | 2, hq => cases hq; exact ⟨fun n z => ⟨fun k h => (by cases h), ka2, f2, cp2, g2⟩, ka2, cp2, f2, g2, e2, h2⟩
    | k + 3, hq => simp [ktys] at hq

abbrev LX (p : Program) (e : Env) (s : State) (m : MethodId) (below : List Frame) (meth : Method) (c : Code) (b : Nat) : CX := (p, e, room_1, s, m, #[Value.ref b], below, meth, c, 60, 854)
set_option maxHeartbeats 4000000 in
set_option maxRecDepth 100000 in
theorem law_made {K : KX} {X : CX} {Q : State → Prop} {β : Int} {μ : Int → ME} (C : okG K X cL_law RL 4 8 60 854 (some .boolean)) (h1 : X.2.2.2.2.2.2.2.2.2.1 = 60) (h2 : X.2.2.2.2.2.2.2.2.2.2 = 854) (h3 : K.2.2.2 = X.2.2.2.1.heap.size) (kk : PW K X 4 Q 18 [(3, vI 0), (0, vR β), (1, vR 0), (2, vR 42)] [] (M7 μ)) (C' : okX K X cL_law RL 4 8 (some .boolean)) : PG K X 4 Q 0 0 0 0 [(0, vR β)] [] μ := by
  refine ge_new (pc := 0) (ci := 4) (q := (RX4, TX4, 16)) (fs := [vN, vI 0, vN, vI 0, vI 0, vN, vN, vN, vN, vN, vN, vN, vI 0, vN, vI 0, vI 0]) (n' := 1) (c' := 1) (sz' := 16) (v := 0) C rfl gw_cl_L_7 gw_in_4 gw_iz_4 tyX4 tyX4_ok (dfl_4 K) okd_4 dL_law_0 rfl rfl rfl rfl (by decide) (by decide) ?_
  refine g_dup (pc := 3) C dL_law_3 rfl ?_
  refine g_initI (pc := 4) (n1 := 42) C gw_ml_L_9 gw_im_4 gw_iz_4 gw_co_4 rfl (by decide) ⟨by decide, by decide, by decide +kernel⟩ dL_law_4 (i_X4 (mup_s _ _ _)) rfl (Nat.le_of_ble_eq_true rfl) (by decide) (by decide) ?_
  refine g_astore_n (pc := 7) (ls' := [(1, _), (0, _)]) C dL_law_7 (by decide) rfl ?_
  refine ge_new (pc := 8) (ci := 5) (q := (RX5, TX5, 31)) (fs := [vI 0, vI 0, vN, vN, vN, vI 0, vI 0, vI 0, vN, vN, vN, vN, vN, vN, vI 0, vI 0, vI 0, vN, vN, vN, vN, vI 0, vI 0, vI 0, vN, vI 0, vI 0, vI 0, vN, vN, vN]) (n' := 43) (c' := 43) (sz' := 461) (v := 42) C rfl gw_cl_L_10 gw_in_5 gw_iz_5 tyX5 tyX5_ok (dfl_5 K) okd_5 dL_law_8 rfl rfl rfl rfl (by decide) (by decide) ?_
  refine g_dup (pc := 11) C dL_law_11 rfl ?_
  refine g_initI (pc := 12) (n1 := 60) C gw_ml_L_12 gw_im_5 gw_iz_5 gw_co_5 rfl (by decide) ⟨by decide, by decide, by decide +kernel⟩ dL_law_12 (i_X5 (mup_s _ _ _)) rfl (Nat.le_of_ble_eq_true rfl) (by decide) (by decide) ?_
  refine g_astore_n (pc := 15) (ls' := [(2, _), (1, _), (0, _)]) C dL_law_15 (by decide) rfl ?_
  refine g_toPW (μ := μ) h1 h2 h3 ?_
  refine p_iconst (pc := 16) C' dL_law_16 (by decide) ?_
  refine p_istore_n (pc := 17) (ls' := [(3, _), (2, _), (1, _), (0, _)]) C' dL_law_17 (by decide) rfl ?_
  refine p_pick [0, 3, 2, 1] (ls' := [(3, _), (0, _), (1, _), (2, _)]) rfl ?_
  exact kk

set_option maxHeartbeats 4000000 in
set_option maxRecDepth 100000 in
theorem whole_start {p : Program} {e : Env} {s : State} {m : MethodId} {below : List Frame} {meth : Method} {c : Code} (l : Launch) {b L : Nat} {xs : Nat → Int32} (hL : L ≤ 384) (C0 : lw_At p s m meth c b L xs) : W p l e room_1 s m #[Value.ref b] below meth c s.heap [] 0 0 (lw_Z below #[Value.ref b] s) (entryFrame m ([Value.ref b] : List Value).toArray 4) := by
  obtain ⟨hx, hb, hr, hml, hown, hts, hX, hbl, hlocks, hgv⟩ := id C0
  obtain ⟨D, a, hK⟩ := kg_0 (l := l) hts
  have hgw : ∀ w ∈ GW, w.before #[Value.ref b] s = true := fun w h => hts w (tb_gw w h)
  have hkb : kad (l, D, a, s.heap.size) ((b : Int) - (s.heap.size : Int)) = b := by
    show (((s.heap.size : Nat) : Int) + ((b : Int) - (s.heap.size : Int))).toNat = b
    omega
  have CG : okG (l, D, a, s.heap.size) (LX p e s m below meth c b) cL_law RL 4 8 60 854 (some .boolean) := ⟨hx, hb, hml, hown, hgw, hK, hlocks, hr, ⟨rm_f, rm_l⟩, rm_c, rm_s⟩
  have CX0 : okX (l, D, a, s.heap.size) (LX p e s m below meth c b) cL_law RL 4 8 (some .boolean) := ⟨hx, hb, hml, hown, hgw, hK.1, hlocks, hr, ⟨rm_f, rm_l⟩, rm_c, rm_s⟩
  have S : SX (l, D, a, s.heap.size) (LX p e s m below meth c b) ((b : Int) - (s.heap.size : Int)) L xs := ⟨b, hkb, hX, hbl, rfl, hL⟩
  have kx : ∀ (i : Int) (μ : Int → ME), PW (l, D, a, s.heap.size) (LX p e s m below meth c b) 4 (lw_Z below #[Value.ref b] s) 1254 [(3, vI i), (0, vR ((b : Int) - (s.heap.size : Int))), (1, vR 0), (2, vR 42)] [] μ := by
    intro i μ
    refine p_iconst (pc := 1254) CX0 dL_law_1254 (by decide) ?_
    intro H locs la hP hS hl hμ hL hs
    refine va_forget (fun q hq => (hS.2.2 q hq).1) ?_
    refine W.widen (k := 600000) (n := 7302250) (show 60 ≤ 600000 by decide) (show 854 ≤ 7302250 by decide) ?_
    exact lw_ret hx hb hr hlocks dL_law_1255
  have hl := lv_entry ([Value.ref b]) (n := 4) (Nat.le_of_ble_eq_true rfl)
  rw [lg_entry_eq]
  generalize (lg_sl ([Value.ref b]) ++ List.replicate (4 - (lg_sl ([Value.ref b])).length) Slot.unset).toArray = ls at hl ⊢
  have hl : lv_has ls 4 [(0, Value.ref b)] := hl
  have hl2 : lv_has ls 4 ([(0, vR ((b : Int) - (s.heap.size : Int)))].map (eL (l, D, a, s.heap.size))) := by
    show lv_has ls 4 [(0, Value.ref (kad (l, D, a, s.heap.size) ((b : Int) - (s.heap.size : Int))))]
    rw [hkb]; exact hl
  refine law_made (K := (l, D, a, s.heap.size)) (X := LX p e s m below meth c b) (μ := fun _ => mA 0 (fun _ => 0)) (β := (b : Int) - (s.heap.size : Int)) CG rfl rfl rfl (law_loop CX0 S hL kx 65 0 _ (by omega) (by omega) (inv_0 _)) CX0 s.heap [] ls ⟨rfl, rfl⟩ (fun k q h => by simp [wln] at h) va_S.rf hl2 (fun a h0 h1 => by omega) (fun q hq => by rcases List.mem_singleton.mp hq with rfl; trivial) okS.nil
