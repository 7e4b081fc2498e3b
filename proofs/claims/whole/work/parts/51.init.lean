section GROWE
variable {K : KX} {X : CX} {nL d mc ms n c sz : Nat} {Q : State → Prop} {cc : ByteArray} {own : String} {ret : Option FieldType} {pc : Nat} {ls : List (Nat × PV)} {st : List PV} {μ : Int → ME}
theorem ge_new (C : okG K X cc own nL d mc ms ret) {idx ci n' c' sz' : Nat} {v : Int} {q : vw_C} {fs : List PV} (hc : classes[ci]? = some q) (w1 : Cond.classLink own idx q.1 ∈ GW) (w2 : Cond.instantiable q.1 q.2.2 ∈ GW) (w3 : Cond.initialized q.1 ∈ GW) (ty : Nat → FieldType) (hty : ∀ k, k < q.2.2 → parseFieldDescriptor (q.2.1 k).2.2.1 = some (ty k)) (hfs : ∀ j, j < q.2.2 → defaultValue (ty j) = vp_V (fs.map (eV K)) j) (hok : okS fs) (dg : decode cc pc = .ok (.new idx, 3)) (e1 : n + 1 = n') (e2 : c + 1 = c') (e3 : sz + q.2.2 = sz') (e4 : (n : Int) = v) (h1 : c' ≤ mc) (h2 : sz' ≤ ms) (kk : PG K X nL Q n' c' sz' (pc + 3) ls (vR v :: st) (mup μ v (mO ci fs))) : PG K X nL Q n c sz pc ls st μ := by
  subst e1 e2 e3 e4
  exact g_new C hc w1 w2 w3 ty hty hfs hok h1 h2 dg kk
theorem ge_newa (C : okG K X cc own nL d mc ms ret) {N n' c' sz' : Nat} {v z : Int} (w1 : Cond.arrayClass .int ∈ GW) (hz0 : z = (N : Int)) (hN : N ≤ 1000) (dg : decode cc pc = .ok (.newarray .int, 2)) (e1 : n + 1 = n') (e2 : c + 1 = c') (e3 : sz + N = sz') (e4 : (n : Int) = v) (h1 : c' ≤ mc) (h2 : sz' ≤ ms) (kk : PG K X nL Q n' c' sz' (pc + 2) ls (vR v :: st) (mup μ v (mA N (fun _ => 0)))) : PG K X nL Q n c sz pc ls (vI z :: st) μ := by
  subst e1 e2 e3 e4
  exact g_newa C w1 hz0 hN h1 h2 dg kk
theorem ge_newq (C : okG K X cc own nL d mc ms ret) {idx N t n' c' sz' : Nat} {v z : Int} {E : String} (ht : (t = 0 ∧ E = RX1) ∨ (t = 1 ∧ E = RX0)) (w1 : Cond.classLink own idx E ∈ GW) (hz0 : z = (N : Int)) (hN : N ≤ 1000) (dg : decode cc pc = .ok (.anewarray idx, 3)) (e1 : n + 1 = n') (e2 : c + 1 = c') (e3 : sz + N = sz') (e4 : (n : Int) = v) (h1 : c' ≤ mc) (h2 : sz' ≤ ms) (kk : PG K X nL Q n' c' sz' (pc + 3) ls (vR v :: st) (mup μ v (mR t N (fun _ => none)))) : PG K X nL Q n c sz pc ls (vI z :: st) μ := by
  subst e1 e2 e3 e4
  exact g_newq C ht w1 hz0 hN h1 h2 dg kk
end GROWE
theorem gw_ac : Cond.arrayClass .int ∈ GW := by decide +kernel
theorem gw_o2 : Cond.instanceMethod Lib.objectInit ∈ GW := by decide +kernel
theorem gw_o3 : Cond.code Lib.objectInit ⟨#[0xb1]⟩ 1 none ∈ GW := by decide +kernel

theorem okd_0 : okS [vI 0, vI 0, vI 0, vN] := okS.cons (show okV (vI 0) from (show rng 0 by decide)) (okS.cons (show okV (vI 0) from (show rng 0 by decide)) (okS.cons (show okV (vI 0) from (show rng 0 by decide)) (okS.cons (show okV (vN) from trivial) (okS.nil))))
theorem dfl_0 (K : KX) : ∀ j : Nat, j < 4 → defaultValue (tyX0 j) = vp_V ([vI 0, vI 0, vI 0, vN].map (eV K)) j
  | 0, _ => rfl
  | 1, _ => rfl
  | 2, _ => rfl
  | 3, _ => rfl
  | j + 4, h => absurd h (by omega)
theorem okd_1 : okS [vI 0, vI 0, vI 0, vI 0, vN] := okS.cons (show okV (vI 0) from (show rng 0 by decide)) (okS.cons (show okV (vI 0) from (show rng 0 by decide)) (okS.cons (show okV (vI 0) from (show rng 0 by decide)) (okS.cons (show okV (vI 0) from (show rng 0 by decide)) (okS.cons (show okV (vN) from trivial) (okS.nil)))))
theorem dfl_1 (K : KX) : ∀ j : Nat, j < 5 → defaultValue (tyX1 j) = vp_V ([vI 0, vI 0, vI 0, vI 0, vN].map (eV K)) j
  | 0, _ => rfl
  | 1, _ => rfl
  | 2, _ => rfl
  | 3, _ => rfl
  | 4, _ => rfl
  | j + 5, h => absurd h (by omega)
theorem okd_2 : okS [vI 0, vI 0, vN, vN, vN] := okS.cons (show okV (vI 0) from (show rng 0 by decide)) (okS.cons (show okV (vI 0) from (show rng 0 by decide)) (okS.cons (show okV (vN) from trivial) (okS.cons (show okV (vN) from trivial) (okS.cons (show okV (vN) from trivial) (okS.nil)))))
theorem dfl_2 (K : KX) : ∀ j : Nat, j < 5 → defaultValue (tyX2 j) = vp_V ([vI 0, vI 0, vN, vN, vN].map (eV K)) j
  | 0, _ => rfl
  | 1, _ => rfl
  | 2, _ => rfl
  | 3, _ => rfl
  | 4, _ => rfl
  | j + 5, h => absurd h (by omega)
theorem okd_3 : okS [vI 0, vI 0, vI 0] := okS.cons (show okV (vI 0) from (show rng 0 by decide)) (okS.cons (show okV (vI 0) from (show rng 0 by decide)) (okS.cons (show okV (vI 0) from (show rng 0 by decide)) (okS.nil)))
theorem dfl_3 (K : KX) : ∀ j : Nat, j < 3 → defaultValue (tyX3 j) = vp_V ([vI 0, vI 0, vI 0].map (eV K)) j
  | 0, _ => rfl
  | 1, _ => rfl
  | 2, _ => rfl
  | j + 3, h => absurd h (by omega)
theorem okd_4 : okS [vN, vI 0, vN, vI 0, vI 0, vN, vN, vN, vN, vN, vN, vN, vI 0, vN, vI 0, vI 0] := okS.cons (show okV (vN) from trivial) (okS.cons (show okV (vI 0) from (show rng 0 by decide)) (okS.cons (show okV (vN) from trivial) (okS.cons (show okV (vI 0) from (show rng 0 by decide)) (okS.cons (show okV (vI 0) from (show rng 0 by decide)) (okS.cons (show okV (vN) from trivial) (okS.cons (show okV (vN) from trivial) (okS.cons (show okV (vN) from trivial) (okS.cons (show okV (vN) from trivial) (okS.cons (show okV (vN) from trivial) (okS.cons (show okV (vN) from trivial) (okS.cons (show okV (vN) from trivial) (okS.cons (show okV (vI 0) from (show rng 0 by decide)) (okS.cons (show okV (vN) from trivial) (okS.cons (show okV (vI 0) from (show rng 0 by decide)) (okS.cons (show okV (vI 0) from (show rng 0 by decide)) (okS.nil))))))))))))))))
theorem dfl_4 (K : KX) : ∀ j : Nat, j < 16 → defaultValue (tyX4 j) = vp_V ([vN, vI 0, vN, vI 0, vI 0, vN, vN, vN, vN, vN, vN, vN, vI 0, vN, vI 0, vI 0].map (eV K)) j
  | 0, _ => rfl
  | 1, _ => rfl
  | 2, _ => rfl
  | 3, _ => rfl
  | 4, _ => rfl
  | 5, _ => rfl
  | 6, _ => rfl
  | 7, _ => rfl
  | 8, _ => rfl
  | 9, _ => rfl
  | 10, _ => rfl
  | 11, _ => rfl
  | 12, _ => rfl
  | 13, _ => rfl
  | 14, _ => rfl
  | 15, _ => rfl
  | j + 16, h => absurd h (by omega)
theorem okd_5 : okS [vI 0, vI 0, vN, vN, vN, vI 0, vI 0, vI 0, vN, vN, vN, vN, vN, vN, vI 0, vI 0, vI 0, vN, vN, vN, vN, vI 0, vI 0, vI 0, vN, vI 0, vI 0, vI 0, vN, vN, vN] := okS.cons (show okV (vI 0) from (show rng 0 by decide)) (okS.cons (show okV (vI 0) from (show rng 0 by decide)) (okS.cons (show okV (vN) from trivial) (okS.cons (show okV (vN) from trivial) (okS.cons (show okV (vN) from trivial) (okS.cons (show okV (vI 0) from (show rng 0 by decide)) (okS.cons (show okV (vI 0) from (show rng 0 by decide)) (okS.cons (show okV (vI 0) from (show rng 0 by decide)) (okS.cons (show okV (vN) from trivial) (okS.cons (show okV (vN) from trivial) (okS.cons (show okV (vN) from trivial) (okS.cons (show okV (vN) from trivial) (okS.cons (show okV (vN) from trivial) (okS.cons (show okV (vN) from trivial) (okS.cons (show okV (vI 0) from (show rng 0 by decide)) (okS.cons (show okV (vI 0) from (show rng 0 by decide)) (okS.cons (show okV (vI 0) from (show rng 0 by decide)) (okS.cons (show okV (vN) from trivial) (okS.cons (show okV (vN) from trivial) (okS.cons (show okV (vN) from trivial) (okS.cons (show okV (vN) from trivial) (okS.cons (show okV (vI 0) from (show rng 0 by decide)) (okS.cons (show okV (vI 0) from (show rng 0 by decide)) (okS.cons (show okV (vI 0) from (show rng 0 by decide)) (okS.cons (show okV (vN) from trivial) (okS.cons (show okV (vI 0) from (show rng 0 by decide)) (okS.cons (show okV (vI 0) from (show rng 0 by decide)) (okS.cons (show okV (vI 0) from (show rng 0 by decide)) (okS.cons (show okV (vN) from trivial) (okS.cons (show okV (vN) from trivial) (okS.cons (show okV (vN) from trivial) (okS.nil)))))))))))))))))))))))))))))))
theorem dfl_5 (K : KX) : ∀ j : Nat, j < 31 → defaultValue (tyX5 j) = vp_V ([vI 0, vI 0, vN, vN, vN, vI 0, vI 0, vI 0, vN, vN, vN, vN, vN, vN, vI 0, vI 0, vI 0, vN, vN, vN, vN, vI 0, vI 0, vI 0, vN, vI 0, vI 0, vI 0, vN, vN, vN].map (eV K)) j
  | 0, _ => rfl
  | 1, _ => rfl
  | 2, _ => rfl
  | 3, _ => rfl
  | 4, _ => rfl
  | 5, _ => rfl
  | 6, _ => rfl
  | 7, _ => rfl
  | 8, _ => rfl
  | 9, _ => rfl
  | 10, _ => rfl
  | 11, _ => rfl
  | 12, _ => rfl
  | 13, _ => rfl
  | 14, _ => rfl
  | 15, _ => rfl
  | 16, _ => rfl
  | 17, _ => rfl
  | 18, _ => rfl
  | 19, _ => rfl
  | 20, _ => rfl
  | 21, _ => rfl
  | 22, _ => rfl
  | 23, _ => rfl
  | 24, _ => rfl
  | 25, _ => rfl
  | 26, _ => rfl
  | 27, _ => rfl
  | 28, _ => rfl
  | 29, _ => rfl
  | 30, _ => rfl
  | j + 31, h => absurd h (by omega)
theorem gw_o1_0 : Cond.methodLink RX0 3 Lib.objectInit ∈ GW := by decide +kernel
theorem gw_in_0 : Cond.instantiable RX0 4 ∈ GW := by decide +kernel
theorem gw_iz_0 : Cond.initialized RX0 ∈ GW := by decide +kernel
theorem gw_im_0 : Cond.instanceMethod yX0_init ∈ GW := by decide +kernel
theorem gw_co_0 : Cond.code yX0_init cX0_init 1 none ∈ GW := by decide +kernel
theorem gw_o1_1 : Cond.methodLink RX1 3 Lib.objectInit ∈ GW := by decide +kernel
theorem gw_in_1 : Cond.instantiable RX1 5 ∈ GW := by decide +kernel
theorem gw_iz_1 : Cond.initialized RX1 ∈ GW := by decide +kernel
theorem gw_im_1 : Cond.instanceMethod yX1_init ∈ GW := by decide +kernel
theorem gw_co_1 : Cond.code yX1_init cX1_init 1 none ∈ GW := by decide +kernel
theorem gw_o1_2 : Cond.methodLink RX2 3 Lib.objectInit ∈ GW := by decide +kernel
theorem gw_in_2 : Cond.instantiable RX2 5 ∈ GW := by decide +kernel
theorem gw_iz_2 : Cond.initialized RX2 ∈ GW := by decide +kernel
theorem gw_im_2 : Cond.instanceMethod yX2_init ∈ GW := by decide +kernel
theorem gw_co_2 : Cond.code yX2_init cX2_init 1 none ∈ GW := by decide +kernel
theorem gw_o1_3 : Cond.methodLink RX3 3 Lib.objectInit ∈ GW := by decide +kernel
theorem gw_in_3 : Cond.instantiable RX3 3 ∈ GW := by decide +kernel
theorem gw_iz_3 : Cond.initialized RX3 ∈ GW := by decide +kernel
theorem gw_im_3 : Cond.instanceMethod yX3_init ∈ GW := by decide +kernel
theorem gw_co_3 : Cond.code yX3_init cX3_init 1 none ∈ GW := by decide +kernel
theorem gw_o1_4 : Cond.methodLink RX4 5 Lib.objectInit ∈ GW := by decide +kernel
theorem gw_in_4 : Cond.instantiable RX4 16 ∈ GW := by decide +kernel
theorem gw_iz_4 : Cond.initialized RX4 ∈ GW := by decide +kernel
theorem gw_im_4 : Cond.instanceMethod yX4_init ∈ GW := by decide +kernel
theorem gw_co_4 : Cond.code yX4_init cX4_init 2 none ∈ GW := by decide +kernel
theorem gw_o1_5 : Cond.methodLink RX5 1 Lib.objectInit ∈ GW := by decide +kernel
theorem gw_in_5 : Cond.instantiable RX5 31 ∈ GW := by decide +kernel
theorem gw_iz_5 : Cond.initialized RX5 ∈ GW := by decide +kernel
theorem gw_im_5 : Cond.instanceMethod yX5_init ∈ GW := by decide +kernel
theorem gw_co_5 : Cond.code yX5_init cX5_init 1 none ∈ GW := by decide +kernel
theorem gw_cl_X4_24 : Cond.classLink RX4 24 RX3 ∈ GW := by decide +kernel
theorem gw_cl_X4_31 : Cond.classLink RX4 31 RX2 ∈ GW := by decide +kernel
theorem gw_cl_X4_15 : Cond.classLink RX4 15 RX1 ∈ GW := by decide +kernel
theorem gw_cl_X4_50 : Cond.classLink RX4 50 RX0 ∈ GW := by decide +kernel
set_option maxHeartbeats 4000000 in
set_option maxRecDepth 100000 in
theorem i_X3 {K : KX} {d n : Nat} {a : Int} {μ : Int → ME} : CI K (d + 1) 0 0 yX3_init cX3_init 1 a n μ n μ := by
  refine CI.of (by decide) rfl (by decide) (fun X C hin => ?_)
  refine g_aload_n (pc := 0) C dX3_init_0 rfl ?_
  refine g_obj (pc := 1) C gw_o1_3 gw_o2 gw_o3 dX3_init_1 ?_
  exact g_vret C dX3_init_4

set_option maxHeartbeats 4000000 in
set_option maxRecDepth 100000 in
theorem i_X1 {K : KX} {d n n' : Nat} {a v : Int} {μ : Int → ME} (e1 : n + 1 = n') (e4 : (n : Int) = v) (ha : 0 ≤ a ∧ a < v) (hm : μ a = mO 1 [vI 0, vI 0, vI 0, vI 0, vN]) : CI K (d + 1) 1 4 yX1_init cX1_init 1 a n μ n' (mup (mup μ v (mA 4 (fun _ => 0))) a (mO 1 [vI 0, vI 0, vI 0, vI 0, vR v])) := by
  refine CI.of (by decide) rfl (by decide) (fun X C hin => ?_)
  refine g_aload_n (pc := 0) C dX1_init_0 rfl ?_
  refine g_obj (pc := 1) C gw_o1_1 gw_o2 gw_o3 dX1_init_1 ?_
  refine g_aload_n (pc := 4) C dX1_init_4 rfl ?_
  refine g_iconst (pc := 5) C dX1_init_5 (by decide) ?_
  refine ge_newa (pc := 6) (N := 4) (n' := n') (c' := 1) (sz' := 4) (v := v) C gw_ac rfl (by decide) dX1_init_6 e1 rfl (by decide) e4 (by decide) (by decide) ?_
  refine g_putF (pc := 8) (fs' := [vI 0, vI 0, vI 0, vI 0, vR v]) C hin fl_X1_9 ⟨(RX1, TX1, 5), rfl, rfl, rfl, tyX1 4, tyX1_ok 4 (by decide), fun _ => ⟨rfl, rfl⟩⟩ dX1_init_8 (by omega) (mg_n (by omega) hm) (by decide) rfl ?_
  exact g_vret (pc := 11) C dX1_init_11

set_option maxHeartbeats 4000000 in
set_option maxRecDepth 100000 in
theorem i_X0 {K : KX} {d n n' : Nat} {a v : Int} {μ : Int → ME} (e1 : n + 1 = n') (e4 : (n : Int) = v) (ha : 0 ≤ a ∧ a < v) (hm : μ a = mO 0 [vI 0, vI 0, vI 0, vN]) : CI K (d + 1) 1 60 yX0_init cX0_init 1 a n μ n' (mup (mup μ v (mA 60 (fun _ => 0))) a (mO 0 [vI 0, vI 0, vI 0, vR v])) := by
  refine CI.of (by decide) rfl (by decide) (fun X C hin => ?_)
  refine g_aload_n (pc := 0) C dX0_init_0 rfl ?_
  refine g_obj (pc := 1) C gw_o1_0 gw_o2 gw_o3 dX0_init_1 ?_
  refine g_aload_n (pc := 4) C dX0_init_4 rfl ?_
  refine g_bipush (pc := 5) C dX0_init_5 (by decide) ?_
  refine ge_newa (pc := 7) (N := 60) (n' := n') (c' := 1) (sz' := 60) (v := v) C gw_ac rfl (by decide) dX0_init_7 e1 rfl (by decide) e4 (by decide) (by decide) ?_
  refine g_putF (pc := 9) (fs' := [vI 0, vI 0, vI 0, vR v]) C hin fl_X0_9 ⟨(RX0, TX0, 4), rfl, rfl, rfl, tyX0 3, tyX0_ok 3 (by decide), fun _ => ⟨rfl, rfl⟩⟩ dX0_init_9 (by omega) (mg_n (by omega) hm) (by decide) rfl ?_
  exact g_vret (pc := 12) C dX0_init_12

set_option maxHeartbeats 4000000 in
set_option maxRecDepth 100000 in
theorem i_X2 {K : KX} {d n n1 n2 n3 : Nat} {a v w x : Int} {μ : Int → ME} (e1 : n + 1 = n1) (e2 : n1 + 1 = n2) (e3 : n2 + 1 = n3) (f1 : (n : Int) = v) (f2 : (n1 : Int) = w) (f3 : (n2 : Int) = x) (ha : 0 ≤ a ∧ a < v) (hm : μ a = mO 2 [vI 0, vI 0, vN, vN, vN]) : CI K (d + 1) 3 12 yX2_init cX2_init 1 a n μ n3 (mup (mup (mup (mup (mup (mup μ v (mA 4 (fun _ => 0))) a (mO 2 [vI 0, vI 0, vR v, vN, vN])) w (mA 4 (fun _ => 0))) a (mO 2 [vI 0, vI 0, vR v, vR w, vN])) x (mA 4 (fun _ => 0))) a (mO 2 [vI 0, vI 0, vR v, vR w, vR x])) := by
  refine CI.of (by decide) rfl (by decide) (fun X C hin => ?_)
  refine g_aload_n (pc := 0) C dX2_init_0 rfl ?_
  refine g_obj (pc := 1) C gw_o1_2 gw_o2 gw_o3 dX2_init_1 ?_
  refine g_aload_n (pc := 4) C dX2_init_4 rfl ?_
  refine g_iconst (pc := 5) C dX2_init_5 (by decide) ?_
  refine ge_newa (pc := 6) (N := 4) (n' := n1) (c' := 1) (sz' := 4) (v := v) C gw_ac rfl (by decide) dX2_init_6 e1 rfl rfl f1 (by decide) (by decide) ?_
  refine g_putF (pc := 8) (fs' := [vI 0, vI 0, vR v, vN, vN]) C hin fl_X2_9 ⟨(RX2, TX2, 5), rfl, rfl, rfl, tyX2 2, tyX2_ok 2 (by decide), fun _ => ⟨rfl, rfl⟩⟩ dX2_init_8 (by omega) (by (repeat refine mg_n (by omega) ?_); first | assumption | exact mup_s _ _ _) (Nat.le_of_ble_eq_true rfl) rfl ?_
  refine g_aload_n (pc := 11) C dX2_init_11 rfl ?_
  refine g_iconst (pc := 12) C dX2_init_12 (by decide) ?_
  refine ge_newa (pc := 13) (N := 4) (n' := n2) (c' := 2) (sz' := 8) (v := w) C gw_ac rfl (by decide) dX2_init_13 e2 rfl rfl f2 (by decide) (by decide) ?_
  refine g_putF (pc := 15) (fs' := [vI 0, vI 0, vR v, vR w, vN]) C hin fl_X2_15 ⟨(RX2, TX2, 5), rfl, rfl, rfl, tyX2 3, tyX2_ok 3 (by decide), fun _ => ⟨rfl, rfl⟩⟩ dX2_init_15 (by omega) (by (repeat refine mg_n (by omega) ?_); first | assumption | exact mup_s _ _ _) (Nat.le_of_ble_eq_true rfl) rfl ?_
  refine g_aload_n (pc := 18) C dX2_init_18 rfl ?_
  refine g_iconst (pc := 19) C dX2_init_19 (by decide) ?_
  refine ge_newa (pc := 20) (N := 4) (n' := n3) (c' := 3) (sz' := 12) (v := x) C gw_ac rfl (by decide) dX2_init_20 e3 rfl rfl f3 (by decide) (by decide) ?_
  refine g_putF (pc := 22) (fs' := [vI 0, vI 0, vR v, vR w, vR x]) C hin fl_X2_18 ⟨(RX2, TX2, 5), rfl, rfl, rfl, tyX2 4, tyX2_ok 4 (by decide), fun _ => ⟨rfl, rfl⟩⟩ dX2_init_22 (by omega) (by (repeat refine mg_n (by omega) ?_); first | assumption | exact mup_s _ _ _) (Nat.le_of_ble_eq_true rfl) rfl ?_
  exact g_vret (pc := 25) C dX2_init_25

def M4 (μ : Int → ME) : Int → ME := (mup (mup (mup (mup (mup (mup (mup (mup (mup (mup (mup (mup (mup (mup (mup (mup (mup (mup (mup (mup (mup (mup (mup (mup (mup (mup (mup (mup (mup (mup (mup (mup (mup (mup (mup (mup (mup (mup (mup (mup (mup (mup (mup (mup (mup (mup (mup (mup (mup (mup (mup (mup (mup (mup (mup (mup (mup (mup (mup (mup (mup (mup (mup (mup (mup (mup (mup (mup (mup (mup (mup (mup (mup (mup (mup (mup (mup (mup (mup (mup (mup (mup μ 1 (mA 6 (fun _ => 0))) 0 (mO 4 [vR 1, vI 0, vN, vI 0, vI 0, vN, vN, vN, vN, vN, vN, vN, vI 0, vN, vI 0, vI 0])) 2 (mR 0 5 (fun _ => none))) 0 (mO 4 [vR 1, vI 0, vR 2, vI 0, vI 0, vN, vN, vN, vN, vN, vN, vN, vI 0, vN, vI 0, vI 0])) 3 (mR 0 5 (fun _ => none))) 0 (mO 4 [vR 1, vI 0, vR 2, vI 0, vI 0, vR 3, vN, vN, vN, vN, vN, vN, vI 0, vN, vI 0, vI 0])) 4 (mO 3 [vI 0, vI 0, vI 0])) 0 (mO 4 [vR 1, vI 0, vR 2, vI 0, vI 0, vR 3, vR 4, vN, vN, vN, vN, vN, vI 0, vN, vI 0, vI 0])) 5 (mO 2 [vI 0, vI 0, vN, vN, vN])) 6 (mA 4 (fun _ => 0))) 5 (mO 2 [vI 0, vI 0, vR 6, vN, vN])) 7 (mA 4 (fun _ => 0))) 5 (mO 2 [vI 0, vI 0, vR 6, vR 7, vN])) 8 (mA 4 (fun _ => 0))) 5 (mO 2 [vI 0, vI 0, vR 6, vR 7, vR 8])) 0 (mO 4 [vR 1, vI 0, vR 2, vI 0, vI 0, vR 3, vR 4, vR 5, vN, vN, vN, vN, vI 0, vN, vI 0, vI 0])) 9 (mA 4 (fun _ => 0))) 0 (mO 4 [vR 1, vI 0, vR 2, vI 0, vI 0, vR 3, vR 4, vR 5, vR 9, vN, vN, vN, vI 0, vN, vI 0, vI 0])) 10 (mA 8 (fun _ => 0))) 0 (mO 4 [vR 1, vI 0, vR 2, vI 0, vI 0, vR 3, vR 4, vR 5, vR 9, vR 10, vN, vN, vI 0, vN, vI 0, vI 0])) 11 (mA 8 (fun _ => 0))) 0 (mO 4 [vR 1, vI 0, vR 2, vI 0, vI 0, vR 3, vR 4, vR 5, vR 9, vR 10, vR 11, vN, vI 0, vN, vI 0, vI 0])) 12 (mA 8 (fun _ => 0))) 0 (mO 4 [vR 1, vI 0, vR 2, vI 0, vI 0, vR 3, vR 4, vR 5, vR 9, vR 10, vR 11, vR 12, vI 0, vN, vI 0, vI 0])) 13 (mR 1 4 (fun _ => none))) 0 (mO 4 [vR 1, vI 0, vR 2, vI 0, vI 0, vR 3, vR 4, vR 5, vR 9, vR 10, vR 11, vR 12, vI 0, vR 13, vI 0, vI 0])) 14 (mO 1 [vI 0, vI 0, vI 0, vI 0, vN])) 15 (mA 4 (fun _ => 0))) 14 (mO 1 [vI 0, vI 0, vI 0, vI 0, vR 15])) 2 (mR 0 5 (fuo (fun _ => none) 0 14))) 16 (mO 1 [vI 0, vI 0, vI 0, vI 0, vN])) 17 (mA 4 (fun _ => 0))) 16 (mO 1 [vI 0, vI 0, vI 0, vI 0, vR 17])) 3 (mR 0 5 (fuo (fun _ => none) 0 16))) 18 (mO 1 [vI 0, vI 0, vI 0, vI 0, vN])) 19 (mA 4 (fun _ => 0))) 18 (mO 1 [vI 0, vI 0, vI 0, vI 0, vR 19])) 2 (mR 0 5 (fuo (fuo (fun _ => none) 0 14) 1 18))) 20 (mO 1 [vI 0, vI 0, vI 0, vI 0, vN])) 21 (mA 4 (fun _ => 0))) 20 (mO 1 [vI 0, vI 0, vI 0, vI 0, vR 21])) 3 (mR 0 5 (fuo (fuo (fun _ => none) 0 16) 1 20))) 22 (mO 1 [vI 0, vI 0, vI 0, vI 0, vN])) 23 (mA 4 (fun _ => 0))) 22 (mO 1 [vI 0, vI 0, vI 0, vI 0, vR 23])) 2 (mR 0 5 (fuo (fuo (fuo (fun _ => none) 0 14) 1 18) 2 22))) 24 (mO 1 [vI 0, vI 0, vI 0, vI 0, vN])) 25 (mA 4 (fun _ => 0))) 24 (mO 1 [vI 0, vI 0, vI 0, vI 0, vR 25])) 3 (mR 0 5 (fuo (fuo (fuo (fun _ => none) 0 16) 1 20) 2 24))) 26 (mO 1 [vI 0, vI 0, vI 0, vI 0, vN])) 27 (mA 4 (fun _ => 0))) 26 (mO 1 [vI 0, vI 0, vI 0, vI 0, vR 27])) 2 (mR 0 5 (fuo (fuo (fuo (fuo (fun _ => none) 0 14) 1 18) 2 22) 3 26))) 28 (mO 1 [vI 0, vI 0, vI 0, vI 0, vN])) 29 (mA 4 (fun _ => 0))) 28 (mO 1 [vI 0, vI 0, vI 0, vI 0, vR 29])) 3 (mR 0 5 (fuo (fuo (fuo (fuo (fun _ => none) 0 16) 1 20) 2 24) 3 28))) 30 (mO 1 [vI 0, vI 0, vI 0, vI 0, vN])) 31 (mA 4 (fun _ => 0))) 30 (mO 1 [vI 0, vI 0, vI 0, vI 0, vR 31])) 2 (mR 0 5 (fuo (fuo (fuo (fuo (fuo (fun _ => none) 0 14) 1 18) 2 22) 3 26) 4 30))) 32 (mO 1 [vI 0, vI 0, vI 0, vI 0, vN])) 33 (mA 4 (fun _ => 0))) 32 (mO 1 [vI 0, vI 0, vI 0, vI 0, vR 33])) 3 (mR 0 5 (fuo (fuo (fuo (fuo (fuo (fun _ => none) 0 16) 1 20) 2 24) 3 28) 4 32))) 34 (mO 0 [vI 0, vI 0, vI 0, vN])) 35 (mA 60 (fun _ => 0))) 34 (mO 0 [vI 0, vI 0, vI 0, vR 35])) 13 (mR 1 4 (fuo (fun _ => none) 0 34))) 36 (mO 0 [vI 0, vI 0, vI 0, vN])) 37 (mA 60 (fun _ => 0))) 36 (mO 0 [vI 0, vI 0, vI 0, vR 37])) 13 (mR 1 4 (fuo (fuo (fun _ => none) 0 34) 1 36))) 38 (mO 0 [vI 0, vI 0, vI 0, vN])) 39 (mA 60 (fun _ => 0))) 38 (mO 0 [vI 0, vI 0, vI 0, vR 39])) 13 (mR 1 4 (fuo (fuo (fuo (fun _ => none) 0 34) 1 36) 2 38))) 40 (mO 0 [vI 0, vI 0, vI 0, vN])) 41 (mA 60 (fun _ => 0))) 40 (mO 0 [vI 0, vI 0, vI 0, vR 41])) 13 (mR 1 4 (fuo (fuo (fuo (fuo (fun _ => none) 0 34) 1 36) 2 38) 3 40)))
set_option maxHeartbeats 4000000 in
set_option maxRecDepth 100000 in
theorem i_X4 {K : KX} {d : Nat} {μ : Int → ME} (hm : μ 0 = mO 4 [vN, vI 0, vN, vI 0, vI 0, vN, vN, vN, vN, vN, vN, vN, vI 0, vN, vI 0, vI 0]) : CI K (d + 2) 41 414 yX4_init cX4_init 2 0 1 μ 42 (M4 μ) := by
  refine CI.of (by decide) rfl (by decide) (fun X C hin => ?_)
  refine g_aload_n (pc := 0) C dX4_init_0 rfl ?_
  refine g_obj (pc := 1) C gw_o1_4 gw_o2 gw_o3 dX4_init_1 ?_
  refine g_aload_n (pc := 4) C dX4_init_4 rfl ?_
  refine g_bipush (pc := 5) C dX4_init_5 (by decide) ?_
  refine ge_newa (pc := 7) (N := 6) (n' := 2) (c' := 1) (sz' := 6) (v := 1) C gw_ac rfl (by decide) dX4_init_7 rfl rfl rfl rfl (by decide) (by decide) ?_
  refine g_putF (pc := 9) (fs' := [vR 1, vI 0, vN, vI 0, vI 0, vN, vN, vN, vN, vN, vN, vN, vI 0, vN, vI 0, vI 0]) C hin fl_X4_11 ⟨(RX4, TX4, 16), rfl, rfl, rfl, tyX4 0, tyX4_ok 0 (by decide), fun _ => ⟨rfl, rfl⟩⟩ dX4_init_9 (by decide) (by (repeat refine mg_n (by decide) ?_); first | assumption | exact mup_s _ _ _) (Nat.le_of_ble_eq_true rfl) rfl ?_
  refine g_aload_n (pc := 12) C dX4_init_12 rfl ?_
  refine g_iconst (pc := 13) C dX4_init_13 (by decide) ?_
  refine ge_newq (pc := 14) (N := 5) (t := 0) (n' := 3) (c' := 2) (sz' := 11) (v := 2) C (by exact Or.inl ⟨rfl, rfl⟩) gw_cl_X4_15 rfl (by decide) dX4_init_14 rfl rfl rfl rfl (by decide) (by decide) ?_
  refine g_putF (pc := 17) (fs' := [vR 1, vI 0, vR 2, vI 0, vI 0, vN, vN, vN, vN, vN, vN, vN, vI 0, vN, vI 0, vI 0]) C hin fl_X4_17 ⟨(RX4, TX4, 16), rfl, rfl, rfl, tyX4 2, tyX4_ok 2 (by decide), fun _ => ⟨rfl, rfl⟩⟩ dX4_init_17 (by decide) (by (repeat refine mg_n (by decide) ?_); first | assumption | exact mup_s _ _ _) (Nat.le_of_ble_eq_true rfl) rfl ?_
  refine g_aload_n (pc := 20) C dX4_init_20 rfl ?_
  refine g_iconst (pc := 21) C dX4_init_21 (by decide) ?_
  refine ge_newq (pc := 22) (N := 5) (t := 0) (n' := 4) (c' := 3) (sz' := 16) (v := 3) C (by exact Or.inl ⟨rfl, rfl⟩) gw_cl_X4_15 rfl (by decide) dX4_init_22 rfl rfl rfl rfl (by decide) (by decide) ?_
  refine g_putF (pc := 25) (fs' := [vR 1, vI 0, vR 2, vI 0, vI 0, vR 3, vN, vN, vN, vN, vN, vN, vI 0, vN, vI 0, vI 0]) C hin fl_X4_21 ⟨(RX4, TX4, 16), rfl, rfl, rfl, tyX4 5, tyX4_ok 5 (by decide), fun _ => ⟨rfl, rfl⟩⟩ dX4_init_25 (by decide) (by (repeat refine mg_n (by decide) ?_); first | assumption | exact mup_s _ _ _) (Nat.le_of_ble_eq_true rfl) rfl ?_
  refine g_aload_n (pc := 28) C dX4_init_28 rfl ?_
  refine ge_new (pc := 29) (ci := 3) (q := (RX3, TX3, 3)) (fs := [vI 0, vI 0, vI 0]) (n' := 5) (c' := 4) (sz' := 19) (v := 4) C rfl gw_cl_X4_24 gw_in_3 gw_iz_3 tyX3 tyX3_ok (dfl_3 K) okd_3 dX4_init_29 rfl rfl rfl rfl (by decide) (by decide) ?_
  refine g_dup (pc := 32) C dX4_init_32 rfl ?_
  refine g_initN (pc := 33) (host := RX4) (n1 := 5) C (by decide) gw_im_3 gw_iz_3 gw_co_3 rfl (by decide) ⟨by decide, by decide, by decide +kernel⟩ dX4_init_33 (i_X3 ) rfl (Nat.le_of_ble_eq_true rfl) (by decide) (by decide) ?_
  refine g_putF (pc := 36) (fs' := [vR 1, vI 0, vR 2, vI 0, vI 0, vR 3, vR 4, vN, vN, vN, vN, vN, vI 0, vN, vI 0, vI 0]) C hin fl_X4_27 ⟨(RX4, TX4, 16), rfl, rfl, rfl, tyX4 6, tyX4_ok 6 (by decide), fun _ => ⟨rfl, rfl⟩⟩ dX4_init_36 (by decide) (by (repeat refine mg_n (by decide) ?_); first | assumption | exact mup_s _ _ _) (Nat.le_of_ble_eq_true rfl) rfl ?_
  refine g_aload_n (pc := 39) C dX4_init_39 rfl ?_
  refine ge_new (pc := 40) (ci := 2) (q := (RX2, TX2, 5)) (fs := [vI 0, vI 0, vN, vN, vN]) (n' := 6) (c' := 5) (sz' := 24) (v := 5) C rfl gw_cl_X4_31 gw_in_2 gw_iz_2 tyX2 tyX2_ok (dfl_2 K) okd_2 dX4_init_40 rfl rfl rfl rfl (by decide) (by decide) ?_
  refine g_dup (pc := 43) C dX4_init_43 rfl ?_
  refine g_initN (pc := 44) (host := RX4) (n1 := 9) C (by decide) gw_im_2 gw_iz_2 gw_co_2 rfl (by decide) ⟨by decide, by decide, by decide +kernel⟩ dX4_init_44 (i_X2 (n1 := 7) (n2 := 8) (n3 := 9) (v := 6) (w := 7) (x := 8) rfl rfl rfl rfl rfl rfl (by decide) (mup_s _ _ _)) rfl (Nat.le_of_ble_eq_true rfl) (by decide) (by decide) ?_
  refine g_putF (pc := 47) (fs' := [vR 1, vI 0, vR 2, vI 0, vI 0, vR 3, vR 4, vR 5, vN, vN, vN, vN, vI 0, vN, vI 0, vI 0]) C hin fl_X4_34 ⟨(RX4, TX4, 16), rfl, rfl, rfl, tyX4 7, tyX4_ok 7 (by decide), fun _ => ⟨rfl, rfl⟩⟩ dX4_init_47 (by decide) (by (repeat refine mg_n (by decide) ?_); first | assumption | exact mup_s _ _ _) (Nat.le_of_ble_eq_true rfl) rfl ?_
  refine g_aload_n (pc := 50) C dX4_init_50 rfl ?_
  refine g_iconst (pc := 51) C dX4_init_51 (by decide) ?_
  refine ge_newa (pc := 52) (N := 4) (n' := 10) (c' := 9) (sz' := 40) (v := 9) C gw_ac rfl (by decide) dX4_init_52 rfl rfl rfl rfl (by decide) (by decide) ?_
  refine g_putF (pc := 54) (fs' := [vR 1, vI 0, vR 2, vI 0, vI 0, vR 3, vR 4, vR 5, vR 9, vN, vN, vN, vI 0, vN, vI 0, vI 0]) C hin fl_X4_38 ⟨(RX4, TX4, 16), rfl, rfl, rfl, tyX4 8, tyX4_ok 8 (by decide), fun _ => ⟨rfl, rfl⟩⟩ dX4_init_54 (by decide) (by (repeat refine mg_n (by decide) ?_); first | assumption | exact mup_s _ _ _) (Nat.le_of_ble_eq_true rfl) rfl ?_
  refine g_aload_n (pc := 57) C dX4_init_57 rfl ?_
  refine g_bipush (pc := 58) C dX4_init_58 (by decide) ?_
  refine ge_newa (pc := 60) (N := 8) (n' := 11) (c' := 10) (sz' := 48) (v := 10) C gw_ac rfl (by decide) dX4_init_60 rfl rfl rfl rfl (by decide) (by decide) ?_
  refine g_putF (pc := 62) (fs' := [vR 1, vI 0, vR 2, vI 0, vI 0, vR 3, vR 4, vR 5, vR 9, vR 10, vN, vN, vI 0, vN, vI 0, vI 0]) C hin fl_X4_41 ⟨(RX4, TX4, 16), rfl, rfl, rfl, tyX4 9, tyX4_ok 9 (by decide), fun _ => ⟨rfl, rfl⟩⟩ dX4_init_62 (by decide) (by (repeat refine mg_n (by decide) ?_); first | assumption | exact mup_s _ _ _) (Nat.le_of_ble_eq_true rfl) rfl ?_
  refine g_aload_n (pc := 65) C dX4_init_65 rfl ?_
  refine g_bipush (pc := 66) C dX4_init_66 (by decide) ?_
  refine ge_newa (pc := 68) (N := 8) (n' := 12) (c' := 11) (sz' := 56) (v := 11) C gw_ac rfl (by decide) dX4_init_68 rfl rfl rfl rfl (by decide) (by decide) ?_
  refine g_putF (pc := 70) (fs' := [vR 1, vI 0, vR 2, vI 0, vI 0, vR 3, vR 4, vR 5, vR 9, vR 10, vR 11, vN, vI 0, vN, vI 0, vI 0]) C hin fl_X4_44 ⟨(RX4, TX4, 16), rfl, rfl, rfl, tyX4 10, tyX4_ok 10 (by decide), fun _ => ⟨rfl, rfl⟩⟩ dX4_init_70 (by decide) (by (repeat refine mg_n (by decide) ?_); first | assumption | exact mup_s _ _ _) (Nat.le_of_ble_eq_true rfl) rfl ?_
  refine g_aload_n (pc := 73) C dX4_init_73 rfl ?_
  refine g_bipush (pc := 74) C dX4_init_74 (by decide) ?_
  refine ge_newa (pc := 76) (N := 8) (n' := 13) (c' := 12) (sz' := 64) (v := 12) C gw_ac rfl (by decide) dX4_init_76 rfl rfl rfl rfl (by decide) (by decide) ?_
  refine g_putF (pc := 78) (fs' := [vR 1, vI 0, vR 2, vI 0, vI 0, vR 3, vR 4, vR 5, vR 9, vR 10, vR 11, vR 12, vI 0, vN, vI 0, vI 0]) C hin fl_X4_47 ⟨(RX4, TX4, 16), rfl, rfl, rfl, tyX4 11, tyX4_ok 11 (by decide), fun _ => ⟨rfl, rfl⟩⟩ dX4_init_78 (by decide) (by (repeat refine mg_n (by decide) ?_); first | assumption | exact mup_s _ _ _) (Nat.le_of_ble_eq_true rfl) rfl ?_
  refine g_aload_n (pc := 81) C dX4_init_81 rfl ?_
  refine g_iconst (pc := 82) C dX4_init_82 (by decide) ?_
  refine ge_newq (pc := 83) (N := 4) (t := 1) (n' := 14) (c' := 13) (sz' := 68) (v := 13) C (by exact Or.inr ⟨rfl, rfl⟩) gw_cl_X4_50 rfl (by decide) dX4_init_83 rfl rfl rfl rfl (by decide) (by decide) ?_
  refine g_putF (pc := 86) (fs' := [vR 1, vI 0, vR 2, vI 0, vI 0, vR 3, vR 4, vR 5, vR 9, vR 10, vR 11, vR 12, vI 0, vR 13, vI 0, vI 0]) C hin fl_X4_52 ⟨(RX4, TX4, 16), rfl, rfl, rfl, tyX4 13, tyX4_ok 13 (by decide), fun _ => ⟨rfl, rfl⟩⟩ dX4_init_86 (by decide) (by (repeat refine mg_n (by decide) ?_); first | assumption | exact mup_s _ _ _) (Nat.le_of_ble_eq_true rfl) rfl ?_
  refine g_iconst (pc := 89) C dX4_init_89 (by decide) ?_
  refine g_istore_n (pc := 90) (ls' := [(1, _), (0, _)]) C dX4_init_90 (by decide) rfl ?_
  refine g_iload_n (pc := 91) C dX4_init_91 rfl ?_
  refine g_iconst (pc := 92) C dX4_init_92 (by decide) ?_
  refine g_icmp_ge (pc := 93) (tgt := 128) C dX4_init_93 (by decide) (fun h => absurd h (by decide)) (fun _ => ?_)
  refine g_aload_n (pc := 96) C dX4_init_96 rfl ?_
  refine g_get (pc := 97) C fl_X4_17 dX4_init_97 (by decide) (by (repeat refine mg_n (by decide) ?_); first | assumption | exact mup_s _ _ _) rfl ?_
  refine g_iload_n (pc := 100) C dX4_init_100 rfl ?_
  refine ge_new (pc := 101) (ci := 1) (q := (RX1, TX1, 5)) (fs := [vI 0, vI 0, vI 0, vI 0, vN]) (n' := 15) (c' := 14) (sz' := 73) (v := 14) C rfl gw_cl_X4_15 gw_in_1 gw_iz_1 tyX1 tyX1_ok (dfl_1 K) okd_1 dX4_init_101 rfl rfl rfl rfl (by decide) (by decide) ?_
  refine g_dup (pc := 104) C dX4_init_104 rfl ?_
  refine g_initN (pc := 105) (host := RX4) (n1 := 16) C (by decide) gw_im_1 gw_iz_1 gw_co_1 rfl (by decide) ⟨by decide, by decide, by decide +kernel⟩ dX4_init_105 (i_X1 (n' := 16) (v := 15) rfl rfl (by decide) (mup_s _ _ _)) rfl (Nat.le_of_ble_eq_true rfl) (by decide) (by decide) ?_
  refine g_aast (pc := 108) C dX4_init_108 (by decide) (by (repeat refine mg_n (by decide) ?_); first | assumption | exact mup_s _ _ _) (by decide) (by (repeat refine mg_n (by decide) ?_); first | assumption | exact mup_s _ _ _) (Or.inl ⟨rfl, rfl⟩) (by decide) ?_
  refine g_aload_n (pc := 109) C dX4_init_109 rfl ?_
  refine g_get (pc := 110) C fl_X4_21 dX4_init_110 (by decide) (by (repeat refine mg_n (by decide) ?_); first | assumption | exact mup_s _ _ _) rfl ?_
  refine g_iload_n (pc := 113) C dX4_init_113 rfl ?_
  refine ge_new (pc := 114) (ci := 1) (q := (RX1, TX1, 5)) (fs := [vI 0, vI 0, vI 0, vI 0, vN]) (n' := 17) (c' := 16) (sz' := 82) (v := 16) C rfl gw_cl_X4_15 gw_in_1 gw_iz_1 tyX1 tyX1_ok (dfl_1 K) okd_1 dX4_init_114 rfl rfl rfl rfl (by decide) (by decide) ?_
  refine g_dup (pc := 117) C dX4_init_117 rfl ?_
  refine g_initN (pc := 118) (host := RX4) (n1 := 18) C (by decide) gw_im_1 gw_iz_1 gw_co_1 rfl (by decide) ⟨by decide, by decide, by decide +kernel⟩ dX4_init_118 (i_X1 (n' := 18) (v := 17) rfl rfl (by decide) (mup_s _ _ _)) rfl (Nat.le_of_ble_eq_true rfl) (by decide) (by decide) ?_
  refine g_aast (pc := 121) C dX4_init_121 (by decide) (by (repeat refine mg_n (by decide) ?_); first | assumption | exact mup_s _ _ _) (by decide) (by (repeat refine mg_n (by decide) ?_); first | assumption | exact mup_s _ _ _) (Or.inl ⟨rfl, rfl⟩) (by decide) ?_
  refine g_iinc (pc := 122) (w := 1) (ls' := [(1, _), (0, _)]) C dX4_init_122 (by decide) rfl (by decide) (by decide) rfl ?_
  refine g_goto (pc := 125) (tgt := 91) C dX4_init_125 (by decide) ?_
  refine g_iload_n (pc := 91) C dX4_init_91 rfl ?_
  refine g_iconst (pc := 92) C dX4_init_92 (by decide) ?_
  refine g_icmp_ge (pc := 93) (tgt := 128) C dX4_init_93 (by decide) (fun h => absurd h (by decide)) (fun _ => ?_)
  refine g_aload_n (pc := 96) C dX4_init_96 rfl ?_
  refine g_get (pc := 97) C fl_X4_17 dX4_init_97 (by decide) (by (repeat refine mg_n (by decide) ?_); first | assumption | exact mup_s _ _ _) rfl ?_
  refine g_iload_n (pc := 100) C dX4_init_100 rfl ?_
  refine ge_new (pc := 101) (ci := 1) (q := (RX1, TX1, 5)) (fs := [vI 0, vI 0, vI 0, vI 0, vN]) (n' := 19) (c' := 18) (sz' := 91) (v := 18) C rfl gw_cl_X4_15 gw_in_1 gw_iz_1 tyX1 tyX1_ok (dfl_1 K) okd_1 dX4_init_101 rfl rfl rfl rfl (by decide) (by decide) ?_
  refine g_dup (pc := 104) C dX4_init_104 rfl ?_
  refine g_initN (pc := 105) (host := RX4) (n1 := 20) C (by decide) gw_im_1 gw_iz_1 gw_co_1 rfl (by decide) ⟨by decide, by decide, by decide +kernel⟩ dX4_init_105 (i_X1 (n' := 20) (v := 19) rfl rfl (by decide) (mup_s _ _ _)) rfl (Nat.le_of_ble_eq_true rfl) (by decide) (by decide) ?_
  refine g_aast (pc := 108) C dX4_init_108 (by decide) (by (repeat refine mg_n (by decide) ?_); first | assumption | exact mup_s _ _ _) (by decide) (by (repeat refine mg_n (by decide) ?_); first | assumption | exact mup_s _ _ _) (Or.inl ⟨rfl, rfl⟩) (by decide) ?_
  refine g_aload_n (pc := 109) C dX4_init_109 rfl ?_
  refine g_get (pc := 110) C fl_X4_21 dX4_init_110 (by decide) (by (repeat refine mg_n (by decide) ?_); first | assumption | exact mup_s _ _ _) rfl ?_
  refine g_iload_n (pc := 113) C dX4_init_113 rfl ?_
  refine ge_new (pc := 114) (ci := 1) (q := (RX1, TX1, 5)) (fs := [vI 0, vI 0, vI 0, vI 0, vN]) (n' := 21) (c' := 20) (sz' := 100) (v := 20) C rfl gw_cl_X4_15 gw_in_1 gw_iz_1 tyX1 tyX1_ok (dfl_1 K) okd_1 dX4_init_114 rfl rfl rfl rfl (by decide) (by decide) ?_
  refine g_dup (pc := 117) C dX4_init_117 rfl ?_
  refine g_initN (pc := 118) (host := RX4) (n1 := 22) C (by decide) gw_im_1 gw_iz_1 gw_co_1 rfl (by decide) ⟨by decide, by decide, by decide +kernel⟩ dX4_init_118 (i_X1 (n' := 22) (v := 21) rfl rfl (by decide) (mup_s _ _ _)) rfl (Nat.le_of_ble_eq_true rfl) (by decide) (by decide) ?_
  refine g_aast (pc := 121) C dX4_init_121 (by decide) (by (repeat refine mg_n (by decide) ?_); first | assumption | exact mup_s _ _ _) (by decide) (by (repeat refine mg_n (by decide) ?_); first | assumption | exact mup_s _ _ _) (Or.inl ⟨rfl, rfl⟩) (by decide) ?_
  refine g_iinc (pc := 122) (w := 2) (ls' := [(1, _), (0, _)]) C dX4_init_122 (by decide) rfl (by decide) (by decide) rfl ?_
  refine g_goto (pc := 125) (tgt := 91) C dX4_init_125 (by decide) ?_
  refine g_iload_n (pc := 91) C dX4_init_91 rfl ?_
  refine g_iconst (pc := 92) C dX4_init_92 (by decide) ?_
  refine g_icmp_ge (pc := 93) (tgt := 128) C dX4_init_93 (by decide) (fun h => absurd h (by decide)) (fun _ => ?_)
  refine g_aload_n (pc := 96) C dX4_init_96 rfl ?_
  refine g_get (pc := 97) C fl_X4_17 dX4_init_97 (by decide) (by (repeat refine mg_n (by decide) ?_); first | assumption | exact mup_s _ _ _) rfl ?_
  refine g_iload_n (pc := 100) C dX4_init_100 rfl ?_
  refine ge_new (pc := 101) (ci := 1) (q := (RX1, TX1, 5)) (fs := [vI 0, vI 0, vI 0, vI 0, vN]) (n' := 23) (c' := 22) (sz' := 109) (v := 22) C rfl gw_cl_X4_15 gw_in_1 gw_iz_1 tyX1 tyX1_ok (dfl_1 K) okd_1 dX4_init_101 rfl rfl rfl rfl (by decide) (by decide) ?_
  refine g_dup (pc := 104) C dX4_init_104 rfl ?_
  refine g_initN (pc := 105) (host := RX4) (n1 := 24) C (by decide) gw_im_1 gw_iz_1 gw_co_1 rfl (by decide) ⟨by decide, by decide, by decide +kernel⟩ dX4_init_105 (i_X1 (n' := 24) (v := 23) rfl rfl (by decide) (mup_s _ _ _)) rfl (Nat.le_of_ble_eq_true rfl) (by decide) (by decide) ?_
  refine g_aast (pc := 108) C dX4_init_108 (by decide) (by (repeat refine mg_n (by decide) ?_); first | assumption | exact mup_s _ _ _) (by decide) (by (repeat refine mg_n (by decide) ?_); first | assumption | exact mup_s _ _ _) (Or.inl ⟨rfl, rfl⟩) (by decide) ?_
  refine g_aload_n (pc := 109) C dX4_init_109 rfl ?_
  refine g_get (pc := 110) C fl_X4_21 dX4_init_110 (by decide) (by (repeat refine mg_n (by decide) ?_); first | assumption | exact mup_s _ _ _) rfl ?_
  refine g_iload_n (pc := 113) C dX4_init_113 rfl ?_
  refine ge_new (pc := 114) (ci := 1) (q := (RX1, TX1, 5)) (fs := [vI 0, vI 0, vI 0, vI 0, vN]) (n' := 25) (c' := 24) (sz' := 118) (v := 24) C rfl gw_cl_X4_15 gw_in_1 gw_iz_1 tyX1 tyX1_ok (dfl_1 K) okd_1 dX4_init_114 rfl rfl rfl rfl (by decide) (by decide) ?_
  refine g_dup (pc := 117) C dX4_init_117 rfl ?_
  refine g_initN (pc := 118) (host := RX4) (n1 := 26) C (by decide) gw_im_1 gw_iz_1 gw_co_1 rfl (by decide) ⟨by decide, by decide, by decide +kernel⟩ dX4_init_118 (i_X1 (n' := 26) (v := 25) rfl rfl (by decide) (mup_s _ _ _)) rfl (Nat.le_of_ble_eq_true rfl) (by decide) (by decide) ?_
  refine g_aast (pc := 121) C dX4_init_121 (by decide) (by (repeat refine mg_n (by decide) ?_); first | assumption | exact mup_s _ _ _) (by decide) (by (repeat refine mg_n (by decide) ?_); first | assumption | exact mup_s _ _ _) (Or.inl ⟨rfl, rfl⟩) (by decide) ?_
  refine g_iinc (pc := 122) (w := 3) (ls' := [(1, _), (0, _)]) C dX4_init_122 (by decide) rfl (by decide) (by decide) rfl ?_
  refine g_goto (pc := 125) (tgt := 91) C dX4_init_125 (by decide) ?_
  refine g_iload_n (pc := 91) C dX4_init_91 rfl ?_
  refine g_iconst (pc := 92) C dX4_init_92 (by decide) ?_
  refine g_icmp_ge (pc := 93) (tgt := 128) C dX4_init_93 (by decide) (fun h => absurd h (by decide)) (fun _ => ?_)
  refine g_aload_n (pc := 96) C dX4_init_96 rfl ?_
  refine g_get (pc := 97) C fl_X4_17 dX4_init_97 (by decide) (by (repeat refine mg_n (by decide) ?_); first | assumption | exact mup_s _ _ _) rfl ?_
  refine g_iload_n (pc := 100) C dX4_init_100 rfl ?_
  refine ge_new (pc := 101) (ci := 1) (q := (RX1, TX1, 5)) (fs := [vI 0, vI 0, vI 0, vI 0, vN]) (n' := 27) (c' := 26) (sz' := 127) (v := 26) C rfl gw_cl_X4_15 gw_in_1 gw_iz_1 tyX1 tyX1_ok (dfl_1 K) okd_1 dX4_init_101 rfl rfl rfl rfl (by decide) (by decide) ?_
  refine g_dup (pc := 104) C dX4_init_104 rfl ?_
  refine g_initN (pc := 105) (host := RX4) (n1 := 28) C (by decide) gw_im_1 gw_iz_1 gw_co_1 rfl (by decide) ⟨by decide, by decide, by decide +kernel⟩ dX4_init_105 (i_X1 (n' := 28) (v := 27) rfl rfl (by decide) (mup_s _ _ _)) rfl (Nat.le_of_ble_eq_true rfl) (by decide) (by decide) ?_
  refine g_aast (pc := 108) C dX4_init_108 (by decide) (by (repeat refine mg_n (by decide) ?_); first | assumption | exact mup_s _ _ _) (by decide) (by (repeat refine mg_n (by decide) ?_); first | assumption | exact mup_s _ _ _) (Or.inl ⟨rfl, rfl⟩) (by decide) ?_
  refine g_aload_n (pc := 109) C dX4_init_109 rfl ?_
  refine g_get (pc := 110) C fl_X4_21 dX4_init_110 (by decide) (by (repeat refine mg_n (by decide) ?_); first | assumption | exact mup_s _ _ _) rfl ?_
  refine g_iload_n (pc := 113) C dX4_init_113 rfl ?_
  refine ge_new (pc := 114) (ci := 1) (q := (RX1, TX1, 5)) (fs := [vI 0, vI 0, vI 0, vI 0, vN]) (n' := 29) (c' := 28) (sz' := 136) (v := 28) C rfl gw_cl_X4_15 gw_in_1 gw_iz_1 tyX1 tyX1_ok (dfl_1 K) okd_1 dX4_init_114 rfl rfl rfl rfl (by decide) (by decide) ?_
  refine g_dup (pc := 117) C dX4_init_117 rfl ?_
  refine g_initN (pc := 118) (host := RX4) (n1 := 30) C (by decide) gw_im_1 gw_iz_1 gw_co_1 rfl (by decide) ⟨by decide, by decide, by decide +kernel⟩ dX4_init_118 (i_X1 (n' := 30) (v := 29) rfl rfl (by decide) (mup_s _ _ _)) rfl (Nat.le_of_ble_eq_true rfl) (by decide) (by decide) ?_
  refine g_aast (pc := 121) C dX4_init_121 (by decide) (by (repeat refine mg_n (by decide) ?_); first | assumption | exact mup_s _ _ _) (by decide) (by (repeat refine mg_n (by decide) ?_); first | assumption | exact mup_s _ _ _) (Or.inl ⟨rfl, rfl⟩) (by decide) ?_
  refine g_iinc (pc := 122) (w := 4) (ls' := [(1, _), (0, _)]) C dX4_init_122 (by decide) rfl (by decide) (by decide) rfl ?_
  refine g_goto (pc := 125) (tgt := 91) C dX4_init_125 (by decide) ?_
  refine g_iload_n (pc := 91) C dX4_init_91 rfl ?_
  refine g_iconst (pc := 92) C dX4_init_92 (by decide) ?_
  refine g_icmp_ge (pc := 93) (tgt := 128) C dX4_init_93 (by decide) (fun h => absurd h (by decide)) (fun _ => ?_)
  refine g_aload_n (pc := 96) C dX4_init_96 rfl ?_
  refine g_get (pc := 97) C fl_X4_17 dX4_init_97 (by decide) (by (repeat refine mg_n (by decide) ?_); first | assumption | exact mup_s _ _ _) rfl ?_
  refine g_iload_n (pc := 100) C dX4_init_100 rfl ?_
  refine ge_new (pc := 101) (ci := 1) (q := (RX1, TX1, 5)) (fs := [vI 0, vI 0, vI 0, vI 0, vN]) (n' := 31) (c' := 30) (sz' := 145) (v := 30) C rfl gw_cl_X4_15 gw_in_1 gw_iz_1 tyX1 tyX1_ok (dfl_1 K) okd_1 dX4_init_101 rfl rfl rfl rfl (by decide) (by decide) ?_
  refine g_dup (pc := 104) C dX4_init_104 rfl ?_
  refine g_initN (pc := 105) (host := RX4) (n1 := 32) C (by decide) gw_im_1 gw_iz_1 gw_co_1 rfl (by decide) ⟨by decide, by decide, by decide +kernel⟩ dX4_init_105 (i_X1 (n' := 32) (v := 31) rfl rfl (by decide) (mup_s _ _ _)) rfl (Nat.le_of_ble_eq_true rfl) (by decide) (by decide) ?_
  refine g_aast (pc := 108) C dX4_init_108 (by decide) (by (repeat refine mg_n (by decide) ?_); first | assumption | exact mup_s _ _ _) (by decide) (by (repeat refine mg_n (by decide) ?_); first | assumption | exact mup_s _ _ _) (Or.inl ⟨rfl, rfl⟩) (by decide) ?_
  refine g_aload_n (pc := 109) C dX4_init_109 rfl ?_
  refine g_get (pc := 110) C fl_X4_21 dX4_init_110 (by decide) (by (repeat refine mg_n (by decide) ?_); first | assumption | exact mup_s _ _ _) rfl ?_
  refine g_iload_n (pc := 113) C dX4_init_113 rfl ?_
  refine ge_new (pc := 114) (ci := 1) (q := (RX1, TX1, 5)) (fs := [vI 0, vI 0, vI 0, vI 0, vN]) (n' := 33) (c' := 32) (sz' := 154) (v := 32) C rfl gw_cl_X4_15 gw_in_1 gw_iz_1 tyX1 tyX1_ok (dfl_1 K) okd_1 dX4_init_114 rfl rfl rfl rfl (by decide) (by decide) ?_
  refine g_dup (pc := 117) C dX4_init_117 rfl ?_
  refine g_initN (pc := 118) (host := RX4) (n1 := 34) C (by decide) gw_im_1 gw_iz_1 gw_co_1 rfl (by decide) ⟨by decide, by decide, by decide +kernel⟩ dX4_init_118 (i_X1 (n' := 34) (v := 33) rfl rfl (by decide) (mup_s _ _ _)) rfl (Nat.le_of_ble_eq_true rfl) (by decide) (by decide) ?_
  refine g_aast (pc := 121) C dX4_init_121 (by decide) (by (repeat refine mg_n (by decide) ?_); first | assumption | exact mup_s _ _ _) (by decide) (by (repeat refine mg_n (by decide) ?_); first | assumption | exact mup_s _ _ _) (Or.inl ⟨rfl, rfl⟩) (by decide) ?_
  refine g_iinc (pc := 122) (w := 5) (ls' := [(1, _), (0, _)]) C dX4_init_122 (by decide) rfl (by decide) (by decide) rfl ?_
  refine g_goto (pc := 125) (tgt := 91) C dX4_init_125 (by decide) ?_
  refine g_iload_n (pc := 91) C dX4_init_91 rfl ?_
  refine g_iconst (pc := 92) C dX4_init_92 (by decide) ?_
  refine g_icmp_ge (pc := 93) (tgt := 128) C dX4_init_93 (by decide) (fun _ => ?_) (fun h => absurd (by decide) h)
  refine g_iconst (pc := 128) C dX4_init_128 (by decide) ?_
  refine g_istore_n (pc := 129) (ls' := [(1, _), (0, _)]) C dX4_init_129 (by decide) rfl ?_
  refine g_iload_n (pc := 130) C dX4_init_130 rfl ?_
  refine g_iconst (pc := 131) C dX4_init_131 (by decide) ?_
  refine g_icmp_ge (pc := 132) (tgt := 154) C dX4_init_132 (by decide) (fun h => absurd h (by decide)) (fun _ => ?_)
  refine g_aload_n (pc := 135) C dX4_init_135 rfl ?_
  refine g_get (pc := 136) C fl_X4_52 dX4_init_136 (by decide) (by (repeat refine mg_n (by decide) ?_); first | assumption | exact mup_s _ _ _) rfl ?_
  refine g_iload_n (pc := 139) C dX4_init_139 rfl ?_
  refine ge_new (pc := 140) (ci := 0) (q := (RX0, TX0, 4)) (fs := [vI 0, vI 0, vI 0, vN]) (n' := 35) (c' := 34) (sz' := 162) (v := 34) C rfl gw_cl_X4_50 gw_in_0 gw_iz_0 tyX0 tyX0_ok (dfl_0 K) okd_0 dX4_init_140 rfl rfl rfl rfl (by decide) (by decide) ?_
  refine g_dup (pc := 143) C dX4_init_143 rfl ?_
  refine g_initN (pc := 144) (host := RX4) (n1 := 36) C (by decide) gw_im_0 gw_iz_0 gw_co_0 rfl (by decide) ⟨by decide, by decide, by decide +kernel⟩ dX4_init_144 (i_X0 (n' := 36) (v := 35) rfl rfl (by decide) (mup_s _ _ _)) rfl (Nat.le_of_ble_eq_true rfl) (by decide) (by decide) ?_
  refine g_aast (pc := 147) C dX4_init_147 (by decide) (by (repeat refine mg_n (by decide) ?_); first | assumption | exact mup_s _ _ _) (by decide) (by (repeat refine mg_n (by decide) ?_); first | assumption | exact mup_s _ _ _) (Or.inr ⟨rfl, rfl⟩) (by decide) ?_
  refine g_iinc (pc := 148) (w := 1) (ls' := [(1, _), (0, _)]) C dX4_init_148 (by decide) rfl (by decide) (by decide) rfl ?_
  refine g_goto (pc := 151) (tgt := 130) C dX4_init_151 (by decide) ?_
  refine g_iload_n (pc := 130) C dX4_init_130 rfl ?_
  refine g_iconst (pc := 131) C dX4_init_131 (by decide) ?_
  refine g_icmp_ge (pc := 132) (tgt := 154) C dX4_init_132 (by decide) (fun h => absurd h (by decide)) (fun _ => ?_)
  refine g_aload_n (pc := 135) C dX4_init_135 rfl ?_
  refine g_get (pc := 136) C fl_X4_52 dX4_init_136 (by decide) (by (repeat refine mg_n (by decide) ?_); first | assumption | exact mup_s _ _ _) rfl ?_
  refine g_iload_n (pc := 139) C dX4_init_139 rfl ?_
  refine ge_new (pc := 140) (ci := 0) (q := (RX0, TX0, 4)) (fs := [vI 0, vI 0, vI 0, vN]) (n' := 37) (c' := 36) (sz' := 226) (v := 36) C rfl gw_cl_X4_50 gw_in_0 gw_iz_0 tyX0 tyX0_ok (dfl_0 K) okd_0 dX4_init_140 rfl rfl rfl rfl (by decide) (by decide) ?_
  refine g_dup (pc := 143) C dX4_init_143 rfl ?_
  refine g_initN (pc := 144) (host := RX4) (n1 := 38) C (by decide) gw_im_0 gw_iz_0 gw_co_0 rfl (by decide) ⟨by decide, by decide, by decide +kernel⟩ dX4_init_144 (i_X0 (n' := 38) (v := 37) rfl rfl (by decide) (mup_s _ _ _)) rfl (Nat.le_of_ble_eq_true rfl) (by decide) (by decide) ?_
  refine g_aast (pc := 147) C dX4_init_147 (by decide) (by (repeat refine mg_n (by decide) ?_); first | assumption | exact mup_s _ _ _) (by decide) (by (repeat refine mg_n (by decide) ?_); first | assumption | exact mup_s _ _ _) (Or.inr ⟨rfl, rfl⟩) (by decide) ?_
  refine g_iinc (pc := 148) (w := 2) (ls' := [(1, _), (0, _)]) C dX4_init_148 (by decide) rfl (by decide) (by decide) rfl ?_
  refine g_goto (pc := 151) (tgt := 130) C dX4_init_151 (by decide) ?_
  refine g_iload_n (pc := 130) C dX4_init_130 rfl ?_
  refine g_iconst (pc := 131) C dX4_init_131 (by decide) ?_
  refine g_icmp_ge (pc := 132) (tgt := 154) C dX4_init_132 (by decide) (fun h => absurd h (by decide)) (fun _ => ?_)
  refine g_aload_n (pc := 135) C dX4_init_135 rfl ?_
  refine g_get (pc := 136) C fl_X4_52 dX4_init_136 (by decide) (by (repeat refine mg_n (by decide) ?_); first | assumption | exact mup_s _ _ _) rfl ?_
  refine g_iload_n (pc := 139) C dX4_init_139 rfl ?_
  refine ge_new (pc := 140) (ci := 0) (q := (RX0, TX0, 4)) (fs := [vI 0, vI 0, vI 0, vN]) (n' := 39) (c' := 38) (sz' := 290) (v := 38) C rfl gw_cl_X4_50 gw_in_0 gw_iz_0 tyX0 tyX0_ok (dfl_0 K) okd_0 dX4_init_140 rfl rfl rfl rfl (by decide) (by decide) ?_
  refine g_dup (pc := 143) C dX4_init_143 rfl ?_
  refine g_initN (pc := 144) (host := RX4) (n1 := 40) C (by decide) gw_im_0 gw_iz_0 gw_co_0 rfl (by decide) ⟨by decide, by decide, by decide +kernel⟩ dX4_init_144 (i_X0 (n' := 40) (v := 39) rfl rfl (by decide) (mup_s _ _ _)) rfl (Nat.le_of_ble_eq_true rfl) (by decide) (by decide) ?_
  refine g_aast (pc := 147) C dX4_init_147 (by decide) (by (repeat refine mg_n (by decide) ?_); first | assumption | exact mup_s _ _ _) (by decide) (by (repeat refine mg_n (by decide) ?_); first | assumption | exact mup_s _ _ _) (Or.inr ⟨rfl, rfl⟩) (by decide) ?_
  refine g_iinc (pc := 148) (w := 3) (ls' := [(1, _), (0, _)]) C dX4_init_148 (by decide) rfl (by decide) (by decide) rfl ?_
  refine g_goto (pc := 151) (tgt := 130) C dX4_init_151 (by decide) ?_
  refine g_iload_n (pc := 130) C dX4_init_130 rfl ?_
  refine g_iconst (pc := 131) C dX4_init_131 (by decide) ?_
  refine g_icmp_ge (pc := 132) (tgt := 154) C dX4_init_132 (by decide) (fun h => absurd h (by decide)) (fun _ => ?_)
  refine g_aload_n (pc := 135) C dX4_init_135 rfl ?_
  refine g_get (pc := 136) C fl_X4_52 dX4_init_136 (by decide) (by (repeat refine mg_n (by decide) ?_); first | assumption | exact mup_s _ _ _) rfl ?_
  refine g_iload_n (pc := 139) C dX4_init_139 rfl ?_
  refine ge_new (pc := 140) (ci := 0) (q := (RX0, TX0, 4)) (fs := [vI 0, vI 0, vI 0, vN]) (n' := 41) (c' := 40) (sz' := 354) (v := 40) C rfl gw_cl_X4_50 gw_in_0 gw_iz_0 tyX0 tyX0_ok (dfl_0 K) okd_0 dX4_init_140 rfl rfl rfl rfl (by decide) (by decide) ?_
  refine g_dup (pc := 143) C dX4_init_143 rfl ?_
  refine g_initN (pc := 144) (host := RX4) (n1 := 42) C (by decide) gw_im_0 gw_iz_0 gw_co_0 rfl (by decide) ⟨by decide, by decide, by decide +kernel⟩ dX4_init_144 (i_X0 (n' := 42) (v := 41) rfl rfl (by decide) (mup_s _ _ _)) rfl (Nat.le_of_ble_eq_true rfl) (by decide) (by decide) ?_
  refine g_aast (pc := 147) C dX4_init_147 (by decide) (by (repeat refine mg_n (by decide) ?_); first | assumption | exact mup_s _ _ _) (by decide) (by (repeat refine mg_n (by decide) ?_); first | assumption | exact mup_s _ _ _) (Or.inr ⟨rfl, rfl⟩) (by decide) ?_
  refine g_iinc (pc := 148) (w := 4) (ls' := [(1, _), (0, _)]) C dX4_init_148 (by decide) rfl (by decide) (by decide) rfl ?_
  refine g_goto (pc := 151) (tgt := 130) C dX4_init_151 (by decide) ?_
  refine g_iload_n (pc := 130) C dX4_init_130 rfl ?_
  refine g_iconst (pc := 131) C dX4_init_131 (by decide) ?_
  refine g_icmp_ge (pc := 132) (tgt := 154) C dX4_init_132 (by decide) (fun _ => ?_) (fun h => absurd (by decide) h)
  exact g_vret C dX4_init_154

def M5 (μ : Int → ME) : Int → ME := (mup (mup (mup (mup (mup (mup (mup (mup (mup (mup (mup (mup (mup (mup (mup (mup (mup (mup (mup (mup (mup (mup (mup (mup (mup (mup (mup (mup (mup (mup (mup (mup (mup (mup (mup (mup (mup (mup μ 43 (mA 4 (fun _ => 0))) 43 (mA 4 (fup (fun _ => 0) 0 (-9)))) 43 (mA 4 (fup (fup (fun _ => 0) 0 (-9)) 1 (-9)))) 43 (mA 4 (fup (fup (fup (fun _ => 0) 0 (-9)) 1 (-9)) 2 (-9)))) 43 (mA 4 (fup (fup (fup (fup (fun _ => 0) 0 (-9)) 1 (-9)) 2 (-9)) 3 (-9)))) 42 (mO 5 [vI 0, vI 0, vR 43, vN, vN, vI 0, vI 0, vI 0, vN, vN, vN, vN, vN, vN, vI 0, vI 0, vI 0, vN, vN, vN, vN, vI 0, vI 0, vI 0, vN, vI 0, vI 0, vI 0, vN, vN, vN])) 44 (mA 4 (fun _ => 0))) 42 (mO 5 [vI 0, vI 0, vR 43, vR 44, vN, vI 0, vI 0, vI 0, vN, vN, vN, vN, vN, vN, vI 0, vI 0, vI 0, vN, vN, vN, vN, vI 0, vI 0, vI 0, vN, vI 0, vI 0, vI 0, vN, vN, vN])) 45 (mA 240 (fun _ => 0))) 42 (mO 5 [vI 0, vI 0, vR 43, vR 44, vR 45, vI 0, vI 0, vI 0, vN, vN, vN, vN, vN, vN, vI 0, vI 0, vI 0, vN, vN, vN, vN, vI 0, vI 0, vI 0, vN, vI 0, vI 0, vI 0, vN, vN, vN])) 46 (mA 6 (fun _ => 0))) 42 (mO 5 [vI 0, vI 0, vR 43, vR 44, vR 45, vI 0, vI 0, vI 0, vR 46, vN, vN, vN, vN, vN, vI 0, vI 0, vI 0, vN, vN, vN, vN, vI 0, vI 0, vI 0, vN, vI 0, vI 0, vI 0, vN, vN, vN])) 47 (mA 5 (fun _ => 0))) 42 (mO 5 [vI 0, vI 0, vR 43, vR 44, vR 45, vI 0, vI 0, vI 0, vR 46, vR 47, vN, vN, vN, vN, vI 0, vI 0, vI 0, vN, vN, vN, vN, vI 0, vI 0, vI 0, vN, vI 0, vI 0, vI 0, vN, vN, vN])) 48 (mA 5 (fun _ => 0))) 42 (mO 5 [vI 0, vI 0, vR 43, vR 44, vR 45, vI 0, vI 0, vI 0, vR 46, vR 47, vR 48, vN, vN, vN, vI 0, vI 0, vI 0, vN, vN, vN, vN, vI 0, vI 0, vI 0, vN, vI 0, vI 0, vI 0, vN, vN, vN])) 49 (mA 5 (fun _ => 0))) 42 (mO 5 [vI 0, vI 0, vR 43, vR 44, vR 45, vI 0, vI 0, vI 0, vR 46, vR 47, vR 48, vR 49, vN, vN, vI 0, vI 0, vI 0, vN, vN, vN, vN, vI 0, vI 0, vI 0, vN, vI 0, vI 0, vI 0, vN, vN, vN])) 50 (mA 5 (fun _ => 0))) 42 (mO 5 [vI 0, vI 0, vR 43, vR 44, vR 45, vI 0, vI 0, vI 0, vR 46, vR 47, vR 48, vR 49, vR 50, vN, vI 0, vI 0, vI 0, vN, vN, vN, vN, vI 0, vI 0, vI 0, vN, vI 0, vI 0, vI 0, vN, vN, vN])) 51 (mA 20 (fun _ => 0))) 42 (mO 5 [vI 0, vI 0, vR 43, vR 44, vR 45, vI 0, vI 0, vI 0, vR 46, vR 47, vR 48, vR 49, vR 50, vR 51, vI 0, vI 0, vI 0, vN, vN, vN, vN, vI 0, vI 0, vI 0, vN, vI 0, vI 0, vI 0, vN, vN, vN])) 52 (mA 6 (fun _ => 0))) 42 (mO 5 [vI 0, vI 0, vR 43, vR 44, vR 45, vI 0, vI 0, vI 0, vR 46, vR 47, vR 48, vR 49, vR 50, vR 51, vI 0, vI 0, vI 0, vR 52, vN, vN, vN, vI 0, vI 0, vI 0, vN, vI 0, vI 0, vI 0, vN, vN, vN])) 53 (mA 40 (fun _ => 0))) 42 (mO 5 [vI 0, vI 0, vR 43, vR 44, vR 45, vI 0, vI 0, vI 0, vR 46, vR 47, vR 48, vR 49, vR 50, vR 51, vI 0, vI 0, vI 0, vR 52, vR 53, vN, vN, vI 0, vI 0, vI 0, vN, vI 0, vI 0, vI 0, vN, vN, vN])) 54 (mA 5 (fun _ => 0))) 42 (mO 5 [vI 0, vI 0, vR 43, vR 44, vR 45, vI 0, vI 0, vI 0, vR 46, vR 47, vR 48, vR 49, vR 50, vR 51, vI 0, vI 0, vI 0, vR 52, vR 53, vR 54, vN, vI 0, vI 0, vI 0, vN, vI 0, vI 0, vI 0, vN, vN, vN])) 55 (mA 20 (fun _ => 0))) 42 (mO 5 [vI 0, vI 0, vR 43, vR 44, vR 45, vI 0, vI 0, vI 0, vR 46, vR 47, vR 48, vR 49, vR 50, vR 51, vI 0, vI 0, vI 0, vR 52, vR 53, vR 54, vR 55, vI 0, vI 0, vI 0, vN, vI 0, vI 0, vI 0, vN, vN, vN])) 56 (mA 4 (fun _ => 0))) 42 (mO 5 [vI 0, vI 0, vR 43, vR 44, vR 45, vI 0, vI 0, vI 0, vR 46, vR 47, vR 48, vR 49, vR 50, vR 51, vI 0, vI 0, vI 0, vR 52, vR 53, vR 54, vR 55, vI 0, vI 0, vI 0, vR 56, vI 0, vI 0, vI 0, vN, vN, vN])) 57 (mA 8 (fun _ => 0))) 42 (mO 5 [vI 0, vI 0, vR 43, vR 44, vR 45, vI 0, vI 0, vI 0, vR 46, vR 47, vR 48, vR 49, vR 50, vR 51, vI 0, vI 0, vI 0, vR 52, vR 53, vR 54, vR 55, vI 0, vI 0, vI 0, vR 56, vI 0, vI 0, vI 0, vR 57, vN, vN])) 58 (mA 8 (fun _ => 0))) 42 (mO 5 [vI 0, vI 0, vR 43, vR 44, vR 45, vI 0, vI 0, vI 0, vR 46, vR 47, vR 48, vR 49, vR 50, vR 51, vI 0, vI 0, vI 0, vR 52, vR 53, vR 54, vR 55, vI 0, vI 0, vI 0, vR 56, vI 0, vI 0, vI 0, vR 57, vR 58, vN])) 59 (mA 8 (fun _ => 0))) 42 (mO 5 [vI 0, vI 0, vR 43, vR 44, vR 45, vI 0, vI 0, vI 0, vR 46, vR 47, vR 48, vR 49, vR 50, vR 51, vI 0, vI 0, vI 0, vR 52, vR 53, vR 54, vR 55, vI 0, vI 0, vI 0, vR 56, vI 0, vI 0, vI 0, vR 57, vR 58, vR 59]))
set_option maxHeartbeats 4000000 in
set_option maxRecDepth 100000 in
theorem i_X5 {K : KX} {d : Nat} {μ : Int → ME} (hm : μ 42 = mO 5 [vI 0, vI 0, vN, vN, vN, vI 0, vI 0, vI 0, vN, vN, vN, vN, vN, vN, vI 0, vI 0, vI 0, vN, vN, vN, vN, vI 0, vI 0, vI 0, vN, vI 0, vI 0, vI 0, vN, vN, vN]) : CI K (d + 1) 17 393 yX5_init cX5_init 1 42 43 μ 60 (M5 μ) := by
  refine CI.of (by decide) rfl (by decide) (fun X C hin => ?_)
  refine g_aload_n (pc := 0) C dX5_init_0 rfl ?_
  refine g_obj (pc := 1) C gw_o1_5 gw_o2 gw_o3 dX5_init_1 ?_
  refine g_aload_n (pc := 4) C dX5_init_4 rfl ?_
  refine g_iconst (pc := 5) C dX5_init_5 (by decide) ?_
  refine ge_newa (pc := 6) (N := 4) (n' := 44) (c' := 1) (sz' := 4) (v := 43) C gw_ac rfl (by decide) dX5_init_6 rfl rfl rfl rfl (by decide) (by decide) ?_
  refine g_dup (pc := 8) C dX5_init_8 rfl ?_
  refine g_iconst (pc := 9) C dX5_init_9 (by decide) ?_
  refine g_bipush (pc := 10) C dX5_init_10 (by decide) ?_
  refine g_iast (pc := 12) C dX5_init_12 (by decide) (by (repeat refine mg_n (by decide) ?_); first | assumption | exact mup_s _ _ _) (by decide) ?_
  refine g_dup (pc := 13) C dX5_init_13 rfl ?_
  refine g_iconst (pc := 14) C dX5_init_14 (by decide) ?_
  refine g_bipush (pc := 15) C dX5_init_15 (by decide) ?_
  refine g_iast (pc := 17) C dX5_init_17 (by decide) (by (repeat refine mg_n (by decide) ?_); first | assumption | exact mup_s _ _ _) (by decide) ?_
  refine g_dup (pc := 18) C dX5_init_18 rfl ?_
  refine g_iconst (pc := 19) C dX5_init_19 (by decide) ?_
  refine g_bipush (pc := 20) C dX5_init_20 (by decide) ?_
  refine g_iast (pc := 22) C dX5_init_22 (by decide) (by (repeat refine mg_n (by decide) ?_); first | assumption | exact mup_s _ _ _) (by decide) ?_
  refine g_dup (pc := 23) C dX5_init_23 rfl ?_
  refine g_iconst (pc := 24) C dX5_init_24 (by decide) ?_
  refine g_bipush (pc := 25) C dX5_init_25 (by decide) ?_
  refine g_iast (pc := 27) C dX5_init_27 (by decide) (by (repeat refine mg_n (by decide) ?_); first | assumption | exact mup_s _ _ _) (by decide) ?_
  refine g_putF (pc := 28) (fs' := [vI 0, vI 0, vR 43, vN, vN, vI 0, vI 0, vI 0, vN, vN, vN, vN, vN, vN, vI 0, vI 0, vI 0, vN, vN, vN, vN, vI 0, vI 0, vI 0, vN, vI 0, vI 0, vI 0, vN, vN, vN]) C hin fl_X5_9 ⟨(RX5, TX5, 31), rfl, rfl, rfl, tyX5 2, tyX5_ok 2 (by decide), fun _ => ⟨rfl, rfl⟩⟩ dX5_init_28 (by decide) (by (repeat refine mg_n (by decide) ?_); first | assumption | exact mup_s _ _ _) (Nat.le_of_ble_eq_true rfl) rfl ?_
  refine g_aload_n (pc := 31) C dX5_init_31 rfl ?_
  refine g_iconst (pc := 32) C dX5_init_32 (by decide) ?_
  refine ge_newa (pc := 33) (N := 4) (n' := 45) (c' := 2) (sz' := 8) (v := 44) C gw_ac rfl (by decide) dX5_init_33 rfl rfl rfl rfl (by decide) (by decide) ?_
  refine g_putF (pc := 35) (fs' := [vI 0, vI 0, vR 43, vR 44, vN, vI 0, vI 0, vI 0, vN, vN, vN, vN, vN, vN, vI 0, vI 0, vI 0, vN, vN, vN, vN, vI 0, vI 0, vI 0, vN, vI 0, vI 0, vI 0, vN, vN, vN]) C hin fl_X5_13 ⟨(RX5, TX5, 31), rfl, rfl, rfl, tyX5 3, tyX5_ok 3 (by decide), fun _ => ⟨rfl, rfl⟩⟩ dX5_init_35 (by decide) (by (repeat refine mg_n (by decide) ?_); first | assumption | exact mup_s _ _ _) (Nat.le_of_ble_eq_true rfl) rfl ?_
  refine g_aload_n (pc := 38) C dX5_init_38 rfl ?_
  refine g_sipush (pc := 39) C dX5_init_39 (by decide) ?_
  refine ge_newa (pc := 42) (N := 240) (n' := 46) (c' := 3) (sz' := 248) (v := 45) C gw_ac rfl (by decide) dX5_init_42 rfl rfl rfl rfl (by decide) (by decide) ?_
  refine g_putF (pc := 44) (fs' := [vI 0, vI 0, vR 43, vR 44, vR 45, vI 0, vI 0, vI 0, vN, vN, vN, vN, vN, vN, vI 0, vI 0, vI 0, vN, vN, vN, vN, vI 0, vI 0, vI 0, vN, vI 0, vI 0, vI 0, vN, vN, vN]) C hin fl_X5_16 ⟨(RX5, TX5, 31), rfl, rfl, rfl, tyX5 4, tyX5_ok 4 (by decide), fun _ => ⟨rfl, rfl⟩⟩ dX5_init_44 (by decide) (by (repeat refine mg_n (by decide) ?_); first | assumption | exact mup_s _ _ _) (Nat.le_of_ble_eq_true rfl) rfl ?_
  refine g_aload_n (pc := 47) C dX5_init_47 rfl ?_
  refine g_bipush (pc := 48) C dX5_init_48 (by decide) ?_
  refine ge_newa (pc := 50) (N := 6) (n' := 47) (c' := 4) (sz' := 254) (v := 46) C gw_ac rfl (by decide) dX5_init_50 rfl rfl rfl rfl (by decide) (by decide) ?_
  refine g_putF (pc := 52) (fs' := [vI 0, vI 0, vR 43, vR 44, vR 45, vI 0, vI 0, vI 0, vR 46, vN, vN, vN, vN, vN, vI 0, vI 0, vI 0, vN, vN, vN, vN, vI 0, vI 0, vI 0, vN, vI 0, vI 0, vI 0, vN, vN, vN]) C hin fl_X5_19 ⟨(RX5, TX5, 31), rfl, rfl, rfl, tyX5 8, tyX5_ok 8 (by decide), fun _ => ⟨rfl, rfl⟩⟩ dX5_init_52 (by decide) (by (repeat refine mg_n (by decide) ?_); first | assumption | exact mup_s _ _ _) (Nat.le_of_ble_eq_true rfl) rfl ?_
  refine g_aload_n (pc := 55) C dX5_init_55 rfl ?_
  refine g_iconst (pc := 56) C dX5_init_56 (by decide) ?_
  refine ge_newa (pc := 57) (N := 5) (n' := 48) (c' := 5) (sz' := 259) (v := 47) C gw_ac rfl (by decide) dX5_init_57 rfl rfl rfl rfl (by decide) (by decide) ?_
  refine g_putF (pc := 59) (fs' := [vI 0, vI 0, vR 43, vR 44, vR 45, vI 0, vI 0, vI 0, vR 46, vR 47, vN, vN, vN, vN, vI 0, vI 0, vI 0, vN, vN, vN, vN, vI 0, vI 0, vI 0, vN, vI 0, vI 0, vI 0, vN, vN, vN]) C hin fl_X5_22 ⟨(RX5, TX5, 31), rfl, rfl, rfl, tyX5 9, tyX5_ok 9 (by decide), fun _ => ⟨rfl, rfl⟩⟩ dX5_init_59 (by decide) (by (repeat refine mg_n (by decide) ?_); first | assumption | exact mup_s _ _ _) (Nat.le_of_ble_eq_true rfl) rfl ?_
  refine g_aload_n (pc := 62) C dX5_init_62 rfl ?_
  refine g_iconst (pc := 63) C dX5_init_63 (by decide) ?_
  refine ge_newa (pc := 64) (N := 5) (n' := 49) (c' := 6) (sz' := 264) (v := 48) C gw_ac rfl (by decide) dX5_init_64 rfl rfl rfl rfl (by decide) (by decide) ?_
  refine g_putF (pc := 66) (fs' := [vI 0, vI 0, vR 43, vR 44, vR 45, vI 0, vI 0, vI 0, vR 46, vR 47, vR 48, vN, vN, vN, vI 0, vI 0, vI 0, vN, vN, vN, vN, vI 0, vI 0, vI 0, vN, vI 0, vI 0, vI 0, vN, vN, vN]) C hin fl_X5_25 ⟨(RX5, TX5, 31), rfl, rfl, rfl, tyX5 10, tyX5_ok 10 (by decide), fun _ => ⟨rfl, rfl⟩⟩ dX5_init_66 (by decide) (by (repeat refine mg_n (by decide) ?_); first | assumption | exact mup_s _ _ _) (Nat.le_of_ble_eq_true rfl) rfl ?_
  refine g_aload_n (pc := 69) C dX5_init_69 rfl ?_
  refine g_iconst (pc := 70) C dX5_init_70 (by decide) ?_
  refine ge_newa (pc := 71) (N := 5) (n' := 50) (c' := 7) (sz' := 269) (v := 49) C gw_ac rfl (by decide) dX5_init_71 rfl rfl rfl rfl (by decide) (by decide) ?_
  refine g_putF (pc := 73) (fs' := [vI 0, vI 0, vR 43, vR 44, vR 45, vI 0, vI 0, vI 0, vR 46, vR 47, vR 48, vR 49, vN, vN, vI 0, vI 0, vI 0, vN, vN, vN, vN, vI 0, vI 0, vI 0, vN, vI 0, vI 0, vI 0, vN, vN, vN]) C hin fl_X5_28 ⟨(RX5, TX5, 31), rfl, rfl, rfl, tyX5 11, tyX5_ok 11 (by decide), fun _ => ⟨rfl, rfl⟩⟩ dX5_init_73 (by decide) (by (repeat refine mg_n (by decide) ?_); first | assumption | exact mup_s _ _ _) (Nat.le_of_ble_eq_true rfl) rfl ?_
  refine g_aload_n (pc := 76) C dX5_init_76 rfl ?_
  refine g_iconst (pc := 77) C dX5_init_77 (by decide) ?_
  refine ge_newa (pc := 78) (N := 5) (n' := 51) (c' := 8) (sz' := 274) (v := 50) C gw_ac rfl (by decide) dX5_init_78 rfl rfl rfl rfl (by decide) (by decide) ?_
  refine g_putF (pc := 80) (fs' := [vI 0, vI 0, vR 43, vR 44, vR 45, vI 0, vI 0, vI 0, vR 46, vR 47, vR 48, vR 49, vR 50, vN, vI 0, vI 0, vI 0, vN, vN, vN, vN, vI 0, vI 0, vI 0, vN, vI 0, vI 0, vI 0, vN, vN, vN]) C hin fl_X5_31 ⟨(RX5, TX5, 31), rfl, rfl, rfl, tyX5 12, tyX5_ok 12 (by decide), fun _ => ⟨rfl, rfl⟩⟩ dX5_init_80 (by decide) (by (repeat refine mg_n (by decide) ?_); first | assumption | exact mup_s _ _ _) (Nat.le_of_ble_eq_true rfl) rfl ?_
  refine g_aload_n (pc := 83) C dX5_init_83 rfl ?_
  refine g_bipush (pc := 84) C dX5_init_84 (by decide) ?_
  refine ge_newa (pc := 86) (N := 20) (n' := 52) (c' := 9) (sz' := 294) (v := 51) C gw_ac rfl (by decide) dX5_init_86 rfl rfl rfl rfl (by decide) (by decide) ?_
  refine g_putF (pc := 88) (fs' := [vI 0, vI 0, vR 43, vR 44, vR 45, vI 0, vI 0, vI 0, vR 46, vR 47, vR 48, vR 49, vR 50, vR 51, vI 0, vI 0, vI 0, vN, vN, vN, vN, vI 0, vI 0, vI 0, vN, vI 0, vI 0, vI 0, vN, vN, vN]) C hin fl_X5_34 ⟨(RX5, TX5, 31), rfl, rfl, rfl, tyX5 13, tyX5_ok 13 (by decide), fun _ => ⟨rfl, rfl⟩⟩ dX5_init_88 (by decide) (by (repeat refine mg_n (by decide) ?_); first | assumption | exact mup_s _ _ _) (Nat.le_of_ble_eq_true rfl) rfl ?_
  refine g_aload_n (pc := 91) C dX5_init_91 rfl ?_
  refine g_bipush (pc := 92) C dX5_init_92 (by decide) ?_
  refine ge_newa (pc := 94) (N := 6) (n' := 53) (c' := 10) (sz' := 300) (v := 52) C gw_ac rfl (by decide) dX5_init_94 rfl rfl rfl rfl (by decide) (by decide) ?_
  refine g_putF (pc := 96) (fs' := [vI 0, vI 0, vR 43, vR 44, vR 45, vI 0, vI 0, vI 0, vR 46, vR 47, vR 48, vR 49, vR 50, vR 51, vI 0, vI 0, vI 0, vR 52, vN, vN, vN, vI 0, vI 0, vI 0, vN, vI 0, vI 0, vI 0, vN, vN, vN]) C hin fl_X5_37 ⟨(RX5, TX5, 31), rfl, rfl, rfl, tyX5 17, tyX5_ok 17 (by decide), fun _ => ⟨rfl, rfl⟩⟩ dX5_init_96 (by decide) (by (repeat refine mg_n (by decide) ?_); first | assumption | exact mup_s _ _ _) (Nat.le_of_ble_eq_true rfl) rfl ?_
  refine g_aload_n (pc := 99) C dX5_init_99 rfl ?_
  refine g_bipush (pc := 100) C dX5_init_100 (by decide) ?_
  refine ge_newa (pc := 102) (N := 40) (n' := 54) (c' := 11) (sz' := 340) (v := 53) C gw_ac rfl (by decide) dX5_init_102 rfl rfl rfl rfl (by decide) (by decide) ?_
  refine g_putF (pc := 104) (fs' := [vI 0, vI 0, vR 43, vR 44, vR 45, vI 0, vI 0, vI 0, vR 46, vR 47, vR 48, vR 49, vR 50, vR 51, vI 0, vI 0, vI 0, vR 52, vR 53, vN, vN, vI 0, vI 0, vI 0, vN, vI 0, vI 0, vI 0, vN, vN, vN]) C hin fl_X5_40 ⟨(RX5, TX5, 31), rfl, rfl, rfl, tyX5 18, tyX5_ok 18 (by decide), fun _ => ⟨rfl, rfl⟩⟩ dX5_init_104 (by decide) (by (repeat refine mg_n (by decide) ?_); first | assumption | exact mup_s _ _ _) (Nat.le_of_ble_eq_true rfl) rfl ?_
  refine g_aload_n (pc := 107) C dX5_init_107 rfl ?_
  refine g_iconst (pc := 108) C dX5_init_108 (by decide) ?_
  refine ge_newa (pc := 109) (N := 5) (n' := 55) (c' := 12) (sz' := 345) (v := 54) C gw_ac rfl (by decide) dX5_init_109 rfl rfl rfl rfl (by decide) (by decide) ?_
  refine g_putF (pc := 111) (fs' := [vI 0, vI 0, vR 43, vR 44, vR 45, vI 0, vI 0, vI 0, vR 46, vR 47, vR 48, vR 49, vR 50, vR 51, vI 0, vI 0, vI 0, vR 52, vR 53, vR 54, vN, vI 0, vI 0, vI 0, vN, vI 0, vI 0, vI 0, vN, vN, vN]) C hin fl_X5_43 ⟨(RX5, TX5, 31), rfl, rfl, rfl, tyX5 19, tyX5_ok 19 (by decide), fun _ => ⟨rfl, rfl⟩⟩ dX5_init_111 (by decide) (by (repeat refine mg_n (by decide) ?_); first | assumption | exact mup_s _ _ _) (Nat.le_of_ble_eq_true rfl) rfl ?_
  refine g_aload_n (pc := 114) C dX5_init_114 rfl ?_
  refine g_bipush (pc := 115) C dX5_init_115 (by decide) ?_
  refine ge_newa (pc := 117) (N := 20) (n' := 56) (c' := 13) (sz' := 365) (v := 55) C gw_ac rfl (by decide) dX5_init_117 rfl rfl rfl rfl (by decide) (by decide) ?_
  refine g_putF (pc := 119) (fs' := [vI 0, vI 0, vR 43, vR 44, vR 45, vI 0, vI 0, vI 0, vR 46, vR 47, vR 48, vR 49, vR 50, vR 51, vI 0, vI 0, vI 0, vR 52, vR 53, vR 54, vR 55, vI 0, vI 0, vI 0, vN, vI 0, vI 0, vI 0, vN, vN, vN]) C hin fl_X5_46 ⟨(RX5, TX5, 31), rfl, rfl, rfl, tyX5 20, tyX5_ok 20 (by decide), fun _ => ⟨rfl, rfl⟩⟩ dX5_init_119 (by decide) (by (repeat refine mg_n (by decide) ?_); first | assumption | exact mup_s _ _ _) (Nat.le_of_ble_eq_true rfl) rfl ?_
  refine g_aload_n (pc := 122) C dX5_init_122 rfl ?_
  refine g_iconst (pc := 123) C dX5_init_123 (by decide) ?_
  refine ge_newa (pc := 124) (N := 4) (n' := 57) (c' := 14) (sz' := 369) (v := 56) C gw_ac rfl (by decide) dX5_init_124 rfl rfl rfl rfl (by decide) (by decide) ?_
  refine g_putF (pc := 126) (fs' := [vI 0, vI 0, vR 43, vR 44, vR 45, vI 0, vI 0, vI 0, vR 46, vR 47, vR 48, vR 49, vR 50, vR 51, vI 0, vI 0, vI 0, vR 52, vR 53, vR 54, vR 55, vI 0, vI 0, vI 0, vR 56, vI 0, vI 0, vI 0, vN, vN, vN]) C hin fl_X5_49 ⟨(RX5, TX5, 31), rfl, rfl, rfl, tyX5 24, tyX5_ok 24 (by decide), fun _ => ⟨rfl, rfl⟩⟩ dX5_init_126 (by decide) (by (repeat refine mg_n (by decide) ?_); first | assumption | exact mup_s _ _ _) (Nat.le_of_ble_eq_true rfl) rfl ?_
  refine g_aload_n (pc := 129) C dX5_init_129 rfl ?_
  refine g_bipush (pc := 130) C dX5_init_130 (by decide) ?_
  refine ge_newa (pc := 132) (N := 8) (n' := 58) (c' := 15) (sz' := 377) (v := 57) C gw_ac rfl (by decide) dX5_init_132 rfl rfl rfl rfl (by decide) (by decide) ?_
  refine g_putF (pc := 134) (fs' := [vI 0, vI 0, vR 43, vR 44, vR 45, vI 0, vI 0, vI 0, vR 46, vR 47, vR 48, vR 49, vR 50, vR 51, vI 0, vI 0, vI 0, vR 52, vR 53, vR 54, vR 55, vI 0, vI 0, vI 0, vR 56, vI 0, vI 0, vI 0, vR 57, vN, vN]) C hin fl_X5_52 ⟨(RX5, TX5, 31), rfl, rfl, rfl, tyX5 28, tyX5_ok 28 (by decide), fun _ => ⟨rfl, rfl⟩⟩ dX5_init_134 (by decide) (by (repeat refine mg_n (by decide) ?_); first | assumption | exact mup_s _ _ _) (Nat.le_of_ble_eq_true rfl) rfl ?_
  refine g_aload_n (pc := 137) C dX5_init_137 rfl ?_
  refine g_bipush (pc := 138) C dX5_init_138 (by decide) ?_
  refine ge_newa (pc := 140) (N := 8) (n' := 59) (c' := 16) (sz' := 385) (v := 58) C gw_ac rfl (by decide) dX5_init_140 rfl rfl rfl rfl (by decide) (by decide) ?_
  refine g_putF (pc := 142) (fs' := [vI 0, vI 0, vR 43, vR 44, vR 45, vI 0, vI 0, vI 0, vR 46, vR 47, vR 48, vR 49, vR 50, vR 51, vI 0, vI 0, vI 0, vR 52, vR 53, vR 54, vR 55, vI 0, vI 0, vI 0, vR 56, vI 0, vI 0, vI 0, vR 57, vR 58, vN]) C hin fl_X5_55 ⟨(RX5, TX5, 31), rfl, rfl, rfl, tyX5 29, tyX5_ok 29 (by decide), fun _ => ⟨rfl, rfl⟩⟩ dX5_init_142 (by decide) (by (repeat refine mg_n (by decide) ?_); first | assumption | exact mup_s _ _ _) (Nat.le_of_ble_eq_true rfl) rfl ?_
  refine g_aload_n (pc := 145) C dX5_init_145 rfl ?_
  refine g_bipush (pc := 146) C dX5_init_146 (by decide) ?_
  refine ge_newa (pc := 148) (N := 8) (n' := 60) (c' := 17) (sz' := 393) (v := 59) C gw_ac rfl (by decide) dX5_init_148 rfl rfl rfl rfl (by decide) (by decide) ?_
  refine g_putF (pc := 150) (fs' := [vI 0, vI 0, vR 43, vR 44, vR 45, vI 0, vI 0, vI 0, vR 46, vR 47, vR 48, vR 49, vR 50, vR 51, vI 0, vI 0, vI 0, vR 52, vR 53, vR 54, vR 55, vI 0, vI 0, vI 0, vR 56, vI 0, vI 0, vI 0, vR 57, vR 58, vR 59]) C hin fl_X5_58 ⟨(RX5, TX5, 31), rfl, rfl, rfl, tyX5 30, tyX5_ok 30 (by decide), fun _ => ⟨rfl, rfl⟩⟩ dX5_init_150 (by decide) (by (repeat refine mg_n (by decide) ?_); first | assumption | exact mup_s _ _ _) (Nat.le_of_ble_eq_true rfl) rfl ?_
  exact g_vret C dX5_init_153
