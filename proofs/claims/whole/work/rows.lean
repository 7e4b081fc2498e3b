section
-- ===== PART A: goes FIRST, ahead of the names: the tables' words, and 'selects' of the private methods out of them =====
/-- a private method of a class that the tables say can be made, by its rows of tables_1 -/
def lw_okq (q : MethodName × Nat) : Prop := (q.1.cls ≠ "java/lang/invoke/MethodHandle" ∧ q.1.cls ≠ "java/lang/invoke/VarHandle") ∧ Cond.instantiable q.1.cls q.2 ∈ tables_1 ∧ Cond.privateMethod q.1 ∈ tables_1 ∧ Cond.instanceMethod q.1 ∈ tables_1
theorem lw_p0 : lw_okq (⟨"YardNames", "faulted", "(I)I"⟩, 16) := ⟨⟨by decide +kernel, by decide +kernel⟩, List.mem_of_getElem? (i := 11) (by decide +kernel), List.mem_of_getElem? (i := 185) (by decide +kernel), List.mem_of_getElem? (i := 186) (by decide +kernel)⟩
theorem lw_p1 : lw_okq (⟨"YardNames", "takeText", "(LYardNames$Row;II)V"⟩, 16) := ⟨⟨by decide +kernel, by decide +kernel⟩, List.mem_of_getElem? (i := 11) (by decide +kernel), List.mem_of_getElem? (i := 212) (by decide +kernel), List.mem_of_getElem? (i := 213) (by decide +kernel)⟩
theorem lw_p2 : lw_okq (⟨"YardNames", "isShip", "(I)Z"⟩, 16) := ⟨⟨by decide +kernel, by decide +kernel⟩, List.mem_of_getElem? (i := 11) (by decide +kernel), List.mem_of_getElem? (i := 228) (by decide +kernel), List.mem_of_getElem? (i := 229) (by decide +kernel)⟩
theorem lw_p3 : lw_okq (⟨"YardNames", "isPort", "(I)Z"⟩, 16) := ⟨⟨by decide +kernel, by decide +kernel⟩, List.mem_of_getElem? (i := 11) (by decide +kernel), List.mem_of_getElem? (i := 264) (by decide +kernel), List.mem_of_getElem? (i := 265) (by decide +kernel)⟩
theorem lw_p4 : lw_okq (⟨"YardNames", "hasSea", "()Z"⟩, 16) := ⟨⟨by decide +kernel, by decide +kernel⟩, List.mem_of_getElem? (i := 11) (by decide +kernel), List.mem_of_getElem? (i := 281) (by decide +kernel), List.mem_of_getElem? (i := 282) (by decide +kernel)⟩
theorem lw_p5 : lw_okq (⟨"YardNames", "sailDay", "(LYardNames$Ship;)I"⟩, 16) := ⟨⟨by decide +kernel, by decide +kernel⟩, List.mem_of_getElem? (i := 11) (by decide +kernel), List.mem_of_getElem? (i := 285) (by decide +kernel), List.mem_of_getElem? (i := 286) (by decide +kernel)⟩
theorem lw_p6 : lw_okq (⟨"YardNames", "portBehind", "(I)I"⟩, 16) := ⟨⟨by decide +kernel, by decide +kernel⟩, List.mem_of_getElem? (i := 11) (by decide +kernel), List.mem_of_getElem? (i := 294) (by decide +kernel), List.mem_of_getElem? (i := 295) (by decide +kernel)⟩
theorem lw_p7 : lw_okq (⟨"YardNames", "refusalOfPairs", "(LYardNames$Row;II)I"⟩, 16) := ⟨⟨by decide +kernel, by decide +kernel⟩, List.mem_of_getElem? (i := 11) (by decide +kernel), List.mem_of_getElem? (i := 316) (by decide +kernel), List.mem_of_getElem? (i := 317) (by decide +kernel)⟩
theorem lw_p8 : lw_okq (⟨"YardNames", "sailVoyage", "(LYardNames$Row;II)I"⟩, 16) := ⟨⟨by decide +kernel, by decide +kernel⟩, List.mem_of_getElem? (i := 11) (by decide +kernel), List.mem_of_getElem? (i := 320) (by decide +kernel), List.mem_of_getElem? (i := 321) (by decide +kernel)⟩
theorem lw_p9 : lw_okq (⟨"YardNames", "sailToldDays", "(I)V"⟩, 16) := ⟨⟨by decide +kernel, by decide +kernel⟩, List.mem_of_getElem? (i := 11) (by decide +kernel), List.mem_of_getElem? (i := 335) (by decide +kernel), List.mem_of_getElem? (i := 336) (by decide +kernel)⟩
theorem lw_p10 : lw_okq (⟨"YardNames", "ofVoyage", "(I)I"⟩, 16) := ⟨⟨by decide +kernel, by decide +kernel⟩, List.mem_of_getElem? (i := 11) (by decide +kernel), List.mem_of_getElem? (i := 350) (by decide +kernel), List.mem_of_getElem? (i := 351) (by decide +kernel)⟩
theorem lw_p11 : lw_okq (⟨"YardNames", "metOf", "([LYardNames$Ship;)I"⟩, 16) := ⟨⟨by decide +kernel, by decide +kernel⟩, List.mem_of_getElem? (i := 11) (by decide +kernel), List.mem_of_getElem? (i := 354) (by decide +kernel), List.mem_of_getElem? (i := 355) (by decide +kernel)⟩
theorem lw_p12 : lw_okq (⟨"YardNames", "worthLostFrom", "(LYardNames$Ship;II)I"⟩, 16) := ⟨⟨by decide +kernel, by decide +kernel⟩, List.mem_of_getElem? (i := 11) (by decide +kernel), List.mem_of_getElem? (i := 366) (by decide +kernel), List.mem_of_getElem? (i := 367) (by decide +kernel)⟩
theorem lw_p13 : lw_okq (⟨"YardNames", "roughDays", "(III)I"⟩, 16) := ⟨⟨by decide +kernel, by decide +kernel⟩, List.mem_of_getElem? (i := 11) (by decide +kernel), List.mem_of_getElem? (i := 370) (by decide +kernel), List.mem_of_getElem? (i := 371) (by decide +kernel)⟩
theorem lw_p14 : lw_okq (⟨"YardNames$Stowing", "chooseRest", "(III)V"⟩, 5) := ⟨⟨by decide +kernel, by decide +kernel⟩, List.mem_of_getElem? (i := 41) (by decide +kernel), List.mem_of_getElem? (i := 391) (by decide +kernel), List.mem_of_getElem? (i := 392) (by decide +kernel)⟩
theorem lw_p15 : lw_okq (⟨"YardNames$Stowing", "weigh", "(II)V"⟩, 5) := ⟨⟨by decide +kernel, by decide +kernel⟩, List.mem_of_getElem? (i := 41) (by decide +kernel), List.mem_of_getElem? (i := 395) (by decide +kernel), List.mem_of_getElem? (i := 396) (by decide +kernel)⟩
def lw_privs_1 : List (MethodName × Nat) := [(⟨"YardNames", "faulted", "(I)I"⟩, 16), (⟨"YardNames", "takeText", "(LYardNames$Row;II)V"⟩, 16), (⟨"YardNames", "isShip", "(I)Z"⟩, 16), (⟨"YardNames", "isPort", "(I)Z"⟩, 16), (⟨"YardNames", "hasSea", "()Z"⟩, 16), (⟨"YardNames", "sailDay", "(LYardNames$Ship;)I"⟩, 16), (⟨"YardNames", "portBehind", "(I)I"⟩, 16), (⟨"YardNames", "refusalOfPairs", "(LYardNames$Row;II)I"⟩, 16), (⟨"YardNames", "sailVoyage", "(LYardNames$Row;II)I"⟩, 16), (⟨"YardNames", "sailToldDays", "(I)V"⟩, 16), (⟨"YardNames", "ofVoyage", "(I)I"⟩, 16), (⟨"YardNames", "metOf", "([LYardNames$Ship;)I"⟩, 16), (⟨"YardNames", "worthLostFrom", "(LYardNames$Ship;II)I"⟩, 16), (⟨"YardNames", "roughDays", "(III)I"⟩, 16), (⟨"YardNames$Stowing", "chooseRest", "(III)V"⟩, 5), (⟨"YardNames$Stowing", "weigh", "(II)V"⟩, 5)]
theorem lw_r1 : ∀ q ∈ lw_privs_1, lw_okq q := List.forall_mem_cons.mpr ⟨lw_p0, List.forall_mem_cons.mpr ⟨lw_p1, List.forall_mem_cons.mpr ⟨lw_p2, List.forall_mem_cons.mpr ⟨lw_p3, List.forall_mem_cons.mpr ⟨lw_p4, List.forall_mem_cons.mpr ⟨lw_p5, List.forall_mem_cons.mpr ⟨lw_p6, List.forall_mem_cons.mpr ⟨lw_p7, List.forall_mem_cons.mpr ⟨lw_p8, List.forall_mem_cons.mpr ⟨lw_p9, List.forall_mem_cons.mpr ⟨lw_p10, List.forall_mem_cons.mpr ⟨lw_p11, List.forall_mem_cons.mpr ⟨lw_p12, List.forall_mem_cons.mpr ⟨lw_p13, List.forall_mem_cons.mpr ⟨lw_p14, List.forall_mem_cons.mpr ⟨lw_p15, fun _ h => absurd h List.not_mem_nil⟩⟩⟩⟩⟩⟩⟩⟩⟩⟩⟩⟩⟩⟩⟩⟩
theorem lw_p16 : lw_okq (⟨"YardNames", "readingsAreSo", "(II)Z"⟩, 16) := ⟨⟨by decide +kernel, by decide +kernel⟩, List.mem_of_getElem? (i := 11) (by decide +kernel), List.mem_of_getElem? (i := 419) (by decide +kernel), List.mem_of_getElem? (i := 420) (by decide +kernel)⟩
theorem lw_p17 : lw_okq (⟨"YardNames", "roughPorts", "(I)I"⟩, 16) := ⟨⟨by decide +kernel, by decide +kernel⟩, List.mem_of_getElem? (i := 11) (by decide +kernel), List.mem_of_getElem? (i := 440) (by decide +kernel), List.mem_of_getElem? (i := 441) (by decide +kernel)⟩
theorem lw_p18 : lw_okq (⟨"YardNames", "tellSloop", "(LYardNames$Ship;)I"⟩, 16) := ⟨⟨by decide +kernel, by decide +kernel⟩, List.mem_of_getElem? (i := 11) (by decide +kernel), List.mem_of_getElem? (i := 487) (by decide +kernel), List.mem_of_getElem? (i := 488) (by decide +kernel)⟩
theorem lw_p19 : lw_okq (⟨"YardNames", "leave", "(I)V"⟩, 16) := ⟨⟨by decide +kernel, by decide +kernel⟩, List.mem_of_getElem? (i := 11) (by decide +kernel), List.mem_of_getElem? (i := 491) (by decide +kernel), List.mem_of_getElem? (i := 492) (by decide +kernel)⟩
theorem lw_p20 : lw_okq (⟨"YardNames", "tellCutter", "(LYardNames$Ship;)I"⟩, 16) := ⟨⟨by decide +kernel, by decide +kernel⟩, List.mem_of_getElem? (i := 11) (by decide +kernel), List.mem_of_getElem? (i := 495) (by decide +kernel), List.mem_of_getElem? (i := 496) (by decide +kernel)⟩
theorem lw_p21 : lw_okq (⟨"YardNames", "tellBarge", "(LYardNames$Ship;)I"⟩, 16) := ⟨⟨by decide +kernel, by decide +kernel⟩, List.mem_of_getElem? (i := 11) (by decide +kernel), List.mem_of_getElem? (i := 499) (by decide +kernel), List.mem_of_getElem? (i := 500) (by decide +kernel)⟩
theorem lw_p22 : lw_okq (⟨"YardNames", "hailSloop", "()I"⟩, 16) := ⟨⟨by decide +kernel, by decide +kernel⟩, List.mem_of_getElem? (i := 11) (by decide +kernel), List.mem_of_getElem? (i := 507) (by decide +kernel), List.mem_of_getElem? (i := 508) (by decide +kernel)⟩
theorem lw_p23 : lw_okq (⟨"YardNames", "hailLent", "(LYardNames$Ship;)I"⟩, 16) := ⟨⟨by decide +kernel, by decide +kernel⟩, List.mem_of_getElem? (i := 11) (by decide +kernel), List.mem_of_getElem? (i := 511) (by decide +kernel), List.mem_of_getElem? (i := 512) (by decide +kernel)⟩
theorem lw_p24 : lw_okq (⟨"YardNamesModel", "against", "(IIII)I"⟩, 31) := ⟨⟨by decide +kernel, by decide +kernel⟩, List.mem_of_getElem? (i := 537) (by decide +kernel), List.mem_of_getElem? (i := 650) (by decide +kernel), List.mem_of_getElem? (i := 651) (by decide +kernel)⟩
theorem lw_p25 : lw_okq (⟨"YardNamesModel", "fails", "(I)I"⟩, 31) := ⟨⟨by decide +kernel, by decide +kernel⟩, List.mem_of_getElem? (i := 537) (by decide +kernel), List.mem_of_getElem? (i := 654) (by decide +kernel), List.mem_of_getElem? (i := 655) (by decide +kernel)⟩
theorem lw_p26 : lw_okq (⟨"YardNamesModel", "readSea", "(I)Z"⟩, 31) := ⟨⟨by decide +kernel, by decide +kernel⟩, List.mem_of_getElem? (i := 537) (by decide +kernel), List.mem_of_getElem? (i := 658) (by decide +kernel), List.mem_of_getElem? (i := 659) (by decide +kernel)⟩
theorem lw_p27 : lw_okq (⟨"YardNamesModel", "isSign", "(II)Z"⟩, 31) := ⟨⟨by decide +kernel, by decide +kernel⟩, List.mem_of_getElem? (i := 537) (by decide +kernel), List.mem_of_getElem? (i := 662) (by decide +kernel), List.mem_of_getElem? (i := 663) (by decide +kernel)⟩
theorem lw_p28 : lw_okq (⟨"YardNamesModel", "readThePorts", "(I)Z"⟩, 31) := ⟨⟨by decide +kernel, by decide +kernel⟩, List.mem_of_getElem? (i := 537) (by decide +kernel), List.mem_of_getElem? (i := 666) (by decide +kernel), List.mem_of_getElem? (i := 667) (by decide +kernel)⟩
theorem lw_p29 : lw_okq (⟨"YardNamesModel", "digit", "(III)I"⟩, 31) := ⟨⟨by decide +kernel, by decide +kernel⟩, List.mem_of_getElem? (i := 537) (by decide +kernel), List.mem_of_getElem? (i := 670) (by decide +kernel), List.mem_of_getElem? (i := 671) (by decide +kernel)⟩
theorem lw_p30 : lw_okq (⟨"YardNamesModel", "readShip", "(I)Z"⟩, 31) := ⟨⟨by decide +kernel, by decide +kernel⟩, List.mem_of_getElem? (i := 537) (by decide +kernel), List.mem_of_getElem? (i := 674) (by decide +kernel), List.mem_of_getElem? (i := 675) (by decide +kernel)⟩
theorem lw_p31 : lw_okq (⟨"YardNamesModel", "takeSea", "()V"⟩, 31) := ⟨⟨by decide +kernel, by decide +kernel⟩, List.mem_of_getElem? (i := 537) (by decide +kernel), List.mem_of_getElem? (i := 678) (by decide +kernel), List.mem_of_getElem? (i := 679) (by decide +kernel)⟩
def lw_privs_2 : List (MethodName × Nat) := [(⟨"YardNames", "readingsAreSo", "(II)Z"⟩, 16), (⟨"YardNames", "roughPorts", "(I)I"⟩, 16), (⟨"YardNames", "tellSloop", "(LYardNames$Ship;)I"⟩, 16), (⟨"YardNames", "leave", "(I)V"⟩, 16), (⟨"YardNames", "tellCutter", "(LYardNames$Ship;)I"⟩, 16), (⟨"YardNames", "tellBarge", "(LYardNames$Ship;)I"⟩, 16), (⟨"YardNames", "hailSloop", "()I"⟩, 16), (⟨"YardNames", "hailLent", "(LYardNames$Ship;)I"⟩, 16), (⟨"YardNamesModel", "against", "(IIII)I"⟩, 31), (⟨"YardNamesModel", "fails", "(I)I"⟩, 31), (⟨"YardNamesModel", "readSea", "(I)Z"⟩, 31), (⟨"YardNamesModel", "isSign", "(II)Z"⟩, 31), (⟨"YardNamesModel", "readThePorts", "(I)Z"⟩, 31), (⟨"YardNamesModel", "digit", "(III)I"⟩, 31), (⟨"YardNamesModel", "readShip", "(I)Z"⟩, 31), (⟨"YardNamesModel", "takeSea", "()V"⟩, 31)]
theorem lw_r2 : ∀ q ∈ lw_privs_2, lw_okq q := List.forall_mem_cons.mpr ⟨lw_p16, List.forall_mem_cons.mpr ⟨lw_p17, List.forall_mem_cons.mpr ⟨lw_p18, List.forall_mem_cons.mpr ⟨lw_p19, List.forall_mem_cons.mpr ⟨lw_p20, List.forall_mem_cons.mpr ⟨lw_p21, List.forall_mem_cons.mpr ⟨lw_p22, List.forall_mem_cons.mpr ⟨lw_p23, List.forall_mem_cons.mpr ⟨lw_p24, List.forall_mem_cons.mpr ⟨lw_p25, List.forall_mem_cons.mpr ⟨lw_p26, List.forall_mem_cons.mpr ⟨lw_p27, List.forall_mem_cons.mpr ⟨lw_p28, List.forall_mem_cons.mpr ⟨lw_p29, List.forall_mem_cons.mpr ⟨lw_p30, List.forall_mem_cons.mpr ⟨lw_p31, fun _ h => absurd h List.not_mem_nil⟩⟩⟩⟩⟩⟩⟩⟩⟩⟩⟩⟩⟩⟩⟩⟩
theorem lw_p32 : lw_okq (⟨"YardNamesModel", "isShip", "(I)Z"⟩, 31) := ⟨⟨by decide +kernel, by decide +kernel⟩, List.mem_of_getElem? (i := 537) (by decide +kernel), List.mem_of_getElem? (i := 686) (by decide +kernel), List.mem_of_getElem? (i := 687) (by decide +kernel)⟩
theorem lw_p33 : lw_okq (⟨"YardNamesModel", "bearsOf", "(I)I"⟩, 31) := ⟨⟨by decide +kernel, by decide +kernel⟩, List.mem_of_getElem? (i := 537) (by decide +kernel), List.mem_of_getElem? (i := 690) (by decide +kernel), List.mem_of_getElem? (i := 691) (by decide +kernel)⟩
theorem lw_p34 : lw_okq (⟨"YardNamesModel", "isMet", "(I)Z"⟩, 31) := ⟨⟨by decide +kernel, by decide +kernel⟩, List.mem_of_getElem? (i := 537) (by decide +kernel), List.mem_of_getElem? (i := 694) (by decide +kernel), List.mem_of_getElem? (i := 695) (by decide +kernel)⟩
theorem lw_p35 : lw_okq (⟨"YardNamesModel", "worthOf", "(I)I"⟩, 31) := ⟨⟨by decide +kernel, by decide +kernel⟩, List.mem_of_getElem? (i := 537) (by decide +kernel), List.mem_of_getElem? (i := 698) (by decide +kernel), List.mem_of_getElem? (i := 699) (by decide +kernel)⟩
theorem lw_p36 : lw_okq (⟨"YardNamesModel", "piecesOf", "(I)I"⟩, 31) := ⟨⟨by decide +kernel, by decide +kernel⟩, List.mem_of_getElem? (i := 537) (by decide +kernel), List.mem_of_getElem? (i := 702) (by decide +kernel), List.mem_of_getElem? (i := 703) (by decide +kernel)⟩
theorem lw_p37 : lw_okq (⟨"YardNamesModel", "isPort", "(I)Z"⟩, 31) := ⟨⟨by decide +kernel, by decide +kernel⟩, List.mem_of_getElem? (i := 537) (by decide +kernel), List.mem_of_getElem? (i := 710) (by decide +kernel), List.mem_of_getElem? (i := 711) (by decide +kernel)⟩
theorem lw_p38 : lw_okq (⟨"YardNamesModel", "goesOn", "(I)I"⟩, 31) := ⟨⟨by decide +kernel, by decide +kernel⟩, List.mem_of_getElem? (i := 537) (by decide +kernel), List.mem_of_getElem? (i := 732) (by decide +kernel), List.mem_of_getElem? (i := 733) (by decide +kernel)⟩
theorem lw_p39 : lw_okq (⟨"YardNamesModel", "wouldLose", "(I)I"⟩, 31) := ⟨⟨by decide +kernel, by decide +kernel⟩, List.mem_of_getElem? (i := 537) (by decide +kernel), List.mem_of_getElem? (i := 736) (by decide +kernel), List.mem_of_getElem? (i := 737) (by decide +kernel)⟩
theorem lw_p40 : lw_okq (⟨"YardNamesModel", "refusesPair", "(II)I"⟩, 31) := ⟨⟨by decide +kernel, by decide +kernel⟩, List.mem_of_getElem? (i := 537) (by decide +kernel), List.mem_of_getElem? (i := 752) (by decide +kernel), List.mem_of_getElem? (i := 753) (by decide +kernel)⟩
theorem lw_p41 : lw_okq (⟨"YardNamesModel", "keep", "()V"⟩, 31) := ⟨⟨by decide +kernel, by decide +kernel⟩, List.mem_of_getElem? (i := 537) (by decide +kernel), List.mem_of_getElem? (i := 756) (by decide +kernel), List.mem_of_getElem? (i := 757) (by decide +kernel)⟩
theorem lw_p42 : lw_okq (⟨"YardNamesModel", "goVoyage", "(II)I"⟩, 31) := ⟨⟨by decide +kernel, by decide +kernel⟩, List.mem_of_getElem? (i := 537) (by decide +kernel), List.mem_of_getElem? (i := 760) (by decide +kernel), List.mem_of_getElem? (i := 761) (by decide +kernel)⟩
theorem lw_p43 : lw_okq (⟨"YardNamesModel", "does", "(II)Z"⟩, 31) := ⟨⟨by decide +kernel, by decide +kernel⟩, List.mem_of_getElem? (i := 537) (by decide +kernel), List.mem_of_getElem? (i := 764) (by decide +kernel), List.mem_of_getElem? (i := 765) (by decide +kernel)⟩
theorem lw_p44 : lw_okq (⟨"YardNamesModel", "noteLoss", "(II)V"⟩, 31) := ⟨⟨by decide +kernel, by decide +kernel⟩, List.mem_of_getElem? (i := 537) (by decide +kernel), List.mem_of_getElem? (i := 768) (by decide +kernel), List.mem_of_getElem? (i := 769) (by decide +kernel)⟩
theorem lw_p45 : lw_okq (⟨"YardNamesModel", "tellVoyage", "(I)I"⟩, 31) := ⟨⟨by decide +kernel, by decide +kernel⟩, List.mem_of_getElem? (i := 537) (by decide +kernel), List.mem_of_getElem? (i := 772) (by decide +kernel), List.mem_of_getElem? (i := 773) (by decide +kernel)⟩
theorem lw_p46 : lw_okq (⟨"YardNamesModel", "metNow", "()I"⟩, 31) := ⟨⟨by decide +kernel, by decide +kernel⟩, List.mem_of_getElem? (i := 537) (by decide +kernel), List.mem_of_getElem? (i := 776) (by decide +kernel), List.mem_of_getElem? (i := 777) (by decide +kernel)⟩
theorem lw_p47 : lw_okq (⟨"YardNamesModel", "putBack", "()V"⟩, 31) := ⟨⟨by decide +kernel, by decide +kernel⟩, List.mem_of_getElem? (i := 537) (by decide +kernel), List.mem_of_getElem? (i := 780) (by decide +kernel), List.mem_of_getElem? (i := 781) (by decide +kernel)⟩
def lw_privs_3 : List (MethodName × Nat) := [(⟨"YardNamesModel", "isShip", "(I)Z"⟩, 31), (⟨"YardNamesModel", "bearsOf", "(I)I"⟩, 31), (⟨"YardNamesModel", "isMet", "(I)Z"⟩, 31), (⟨"YardNamesModel", "worthOf", "(I)I"⟩, 31), (⟨"YardNamesModel", "piecesOf", "(I)I"⟩, 31), (⟨"YardNamesModel", "isPort", "(I)Z"⟩, 31), (⟨"YardNamesModel", "goesOn", "(I)I"⟩, 31), (⟨"YardNamesModel", "wouldLose", "(I)I"⟩, 31), (⟨"YardNamesModel", "refusesPair", "(II)I"⟩, 31), (⟨"YardNamesModel", "keep", "()V"⟩, 31), (⟨"YardNamesModel", "goVoyage", "(II)I"⟩, 31), (⟨"YardNamesModel", "does", "(II)Z"⟩, 31), (⟨"YardNamesModel", "noteLoss", "(II)V"⟩, 31), (⟨"YardNamesModel", "tellVoyage", "(I)I"⟩, 31), (⟨"YardNamesModel", "metNow", "()I"⟩, 31), (⟨"YardNamesModel", "putBack", "()V"⟩, 31)]
theorem lw_r3 : ∀ q ∈ lw_privs_3, lw_okq q := List.forall_mem_cons.mpr ⟨lw_p32, List.forall_mem_cons.mpr ⟨lw_p33, List.forall_mem_cons.mpr ⟨lw_p34, List.forall_mem_cons.mpr ⟨lw_p35, List.forall_mem_cons.mpr ⟨lw_p36, List.forall_mem_cons.mpr ⟨lw_p37, List.forall_mem_cons.mpr ⟨lw_p38, List.forall_mem_cons.mpr ⟨lw_p39, List.forall_mem_cons.mpr ⟨lw_p40, List.forall_mem_cons.mpr ⟨lw_p41, List.forall_mem_cons.mpr ⟨lw_p42, List.forall_mem_cons.mpr ⟨lw_p43, List.forall_mem_cons.mpr ⟨lw_p44, List.forall_mem_cons.mpr ⟨lw_p45, List.forall_mem_cons.mpr ⟨lw_p46, List.forall_mem_cons.mpr ⟨lw_p47, fun _ h => absurd h List.not_mem_nil⟩⟩⟩⟩⟩⟩⟩⟩⟩⟩⟩⟩⟩⟩⟩⟩
theorem lw_p48 : lw_okq (⟨"YardNamesModel", "losesIn", "(II)I"⟩, 31) := ⟨⟨by decide +kernel, by decide +kernel⟩, List.mem_of_getElem? (i := 537) (by decide +kernel), List.mem_of_getElem? (i := 792) (by decide +kernel), List.mem_of_getElem? (i := 793) (by decide +kernel)⟩
theorem lw_p49 : lw_okq (⟨"YardNamesModel", "tryStow", "(III)V"⟩, 31) := ⟨⟨by decide +kernel, by decide +kernel⟩, List.mem_of_getElem? (i := 537) (by decide +kernel), List.mem_of_getElem? (i := 803) (by decide +kernel), List.mem_of_getElem? (i := 804) (by decide +kernel)⟩
theorem lw_p50 : lw_okq (⟨"YardNamesModel", "namesOf", "(I)I"⟩, 31) := ⟨⟨by decide +kernel, by decide +kernel⟩, List.mem_of_getElem? (i := 537) (by decide +kernel), List.mem_of_getElem? (i := 811) (by decide +kernel), List.mem_of_getElem? (i := 812) (by decide +kernel)⟩
theorem lw_p51 : lw_okq (⟨"YardNamesModel", "areSo", "()Z"⟩, 31) := ⟨⟨by decide +kernel, by decide +kernel⟩, List.mem_of_getElem? (i := 537) (by decide +kernel), List.mem_of_getElem? (i := 830) (by decide +kernel), List.mem_of_getElem? (i := 831) (by decide +kernel)⟩
theorem lw_p52 : lw_okq (⟨"YardNamesModel", "isLossOf", "(III)Z"⟩, 31) := ⟨⟨by decide +kernel, by decide +kernel⟩, List.mem_of_getElem? (i := 537) (by decide +kernel), List.mem_of_getElem? (i := 842) (by decide +kernel), List.mem_of_getElem? (i := 843) (by decide +kernel)⟩
theorem lw_p53 : lw_okq (⟨"YardNamesModel", "tooRough", "(I)I"⟩, 31) := ⟨⟨by decide +kernel, by decide +kernel⟩, List.mem_of_getElem? (i := 537) (by decide +kernel), List.mem_of_getElem? (i := 851) (by decide +kernel), List.mem_of_getElem? (i := 852) (by decide +kernel)⟩
theorem lw_p54 : lw_okq (⟨"YardNamesModel", "lost", "(I)J"⟩, 31) := ⟨⟨by decide +kernel, by decide +kernel⟩, List.mem_of_getElem? (i := 537) (by decide +kernel), List.mem_of_getElem? (i := 878) (by decide +kernel), List.mem_of_getElem? (i := 879) (by decide +kernel)⟩
theorem lw_p55 : lw_okq (⟨"YardNamesModel", "begins", "(I)V"⟩, 31) := ⟨⟨by decide +kernel, by decide +kernel⟩, List.mem_of_getElem? (i := 537) (by decide +kernel), List.mem_of_getElem? (i := 890) (by decide +kernel), List.mem_of_getElem? (i := 891) (by decide +kernel)⟩
def lw_privs_4 : List (MethodName × Nat) := [(⟨"YardNamesModel", "losesIn", "(II)I"⟩, 31), (⟨"YardNamesModel", "tryStow", "(III)V"⟩, 31), (⟨"YardNamesModel", "namesOf", "(I)I"⟩, 31), (⟨"YardNamesModel", "areSo", "()Z"⟩, 31), (⟨"YardNamesModel", "isLossOf", "(III)Z"⟩, 31), (⟨"YardNamesModel", "tooRough", "(I)I"⟩, 31), (⟨"YardNamesModel", "lost", "(I)J"⟩, 31), (⟨"YardNamesModel", "begins", "(I)V"⟩, 31)]
theorem lw_r4 : ∀ q ∈ lw_privs_4, lw_okq q := List.forall_mem_cons.mpr ⟨lw_p48, List.forall_mem_cons.mpr ⟨lw_p49, List.forall_mem_cons.mpr ⟨lw_p50, List.forall_mem_cons.mpr ⟨lw_p51, List.forall_mem_cons.mpr ⟨lw_p52, List.forall_mem_cons.mpr ⟨lw_p53, List.forall_mem_cons.mpr ⟨lw_p54, List.forall_mem_cons.mpr ⟨lw_p55, fun _ h => absurd h List.not_mem_nil⟩⟩⟩⟩⟩⟩⟩⟩
def lw_privs : List (MethodName × Nat) := lw_privs_1 ++ (lw_privs_2 ++ (lw_privs_3 ++ (lw_privs_4)))
def lw_tbl : List Cond := k2_sels lw_privs ++ tables_1
theorem lw_privs_ok : ∀ q ∈ lw_privs, lw_okq q := by
  show ∀ q ∈ lw_privs_1 ++ (lw_privs_2 ++ (lw_privs_3 ++ (lw_privs_4))), lw_okq q
  exact List.forall_mem_append.mpr ⟨lw_r1, List.forall_mem_append.mpr ⟨lw_r2, List.forall_mem_append.mpr ⟨lw_r3, lw_r4⟩⟩⟩
-- ===== end of PART A; then your names; then what follows =====
/-! THE CLAIM OUT OF ONE WALK OF THE LAW'S BODY. Your part is whole_start (and what it stands on); all else here is the same for every law, but numbers. -/
def R_law : String := "YardNamesLaw"
def lw_P (b : Addr) (xs : List Int32) (args : Array Value) (s : State) : Prop := args = #[.ref b] ∧ s.IntsAt b xs ∧ xs.length ≤ 384 ∧ (Jvm.Cond.and given_1 narrow_1).before args s = true
def lw_Q (_ : Array Value) (s : State) (o : Outcome) (t : State) : Prop := o = .returned (some (.int 1)) ∧ Framed s o t [] 600000 7302250
def lw_Z (below : List Frame) (a : Array Value) (s : State) : State → Prop := fun t => ∃ o, t.status = .running ∧ Ended t below o ∧ lw_Q a s o t
/-- the law's own end, with 1 on the stack, nothing written that was there before, its room as the claim has it -/
theorem lw_ret {p : Program} {l : Launch} {e : Env} {s : State} {m : MethodId} {below : List Frame} {meth : Method} {c : Code} {b : Nat} (hx : p.tables.exec = Jvm.exec) (hb : c.code = code) (hr : meth.sig.returnType = ret) (hlocks : meth.locks = false) {pc : Nat} {H : Heap} {ls : Array Slot} (hdg : decode code pc = .ok (.ireturn, 1)) : W p l e room_1 s m #[Value.ref b] below meth c H [] 600000 7302250 (lw_Z below #[Value.ref b] s) (F0 m pc ls [.int 1]) := by
  intro T hT X
  obtain ⟨fs, hret, hrun, hended, hW, hframe⟩ := X.leave (v := some (.int 1)) (hlocks := hlocks) (fun h => by rw [hr] at h; cases h)
  have hmeth' : T.vm.method? m = some meth := X.method'
  refine ⟨T.setFrames fs, ?_, .returned (some (.int 1)), hrun, hended, rfl, ⟨_, rfl⟩, hW, hframe⟩
  jvm_step X.here [X.here.top, hx, hb, hdg, hmeth', hr, ret, narrow_b1]
  (try refine ⟨rfl, ?_⟩); (try refine ⟨rfl, ?_⟩)
  first | (intro acts; rw [hret _ acts rfl rfl rfl]) | rw [hret _ _ rfl rfl rfl]
  exact Steps.refl _
/-- what holds at the law's entry: the machine, the code, the tables' words (any of lw_tbl by 'hts w (by decide +kernel)'), the script of L ints xs at the cell b, what the Statement gives of the start (any of its parts by flat_of_before) -/
def lw_At (p : Program) (s : State) (m : MethodId) (meth : Method) (c : Code) (b L : Nat) (xs : Nat → Int32) : Prop :=
  p.tables.exec = Jvm.exec ∧ c.code = code ∧ meth.sig.returnType = ret ∧ c.maxLocals = 4 ∧ s.vm.findClass R_law = some m.cls ∧ (∀ w ∈ lw_tbl, w.before #[Value.ref b] s = true) ∧ va_X b L xs s s.heap ∧ b < s.heap.size ∧ meth.locks = false ∧ (Jvm.Cond.and given_1 narrow_1).before #[Value.ref b] s = true
end
section
def RX0 : String := "YardNames$Row"
def TX0 : u_T := fun k => match k with
  | 0 => ("YardNames$Row", "isThere", "Z", false)
  | 1 => ("YardNames$Row", "lane", "I", false)
  | 2 => ("YardNames$Row", "length", "I", false)
  | _ => ("YardNames$Row", "cells", "[I", true)
def tyX0 : Nat → FieldType := fun k => match k with
  | 0 => .boolean
  | 1 => .int
  | 2 => .int
  | _ => .array .int
theorem nmX0 : ∀ a, a < 4 → ∀ b, b < 4 → a ≠ b → (TX0 a).2.1 ≠ (TX0 b).2.1 := by decide +kernel
theorem tyX0_ok : ∀ k, k < 4 → parseFieldDescriptor (TX0 k).2.2.1 = some (tyX0 k) := by decide +kernel
abbrev cX0_init : ByteArray := prog_2_method_1_code
def yX0_init : MethodName := ⟨RX0, "<init>", "()V"⟩
abbrev cX0_begin : ByteArray := prog_2_method_2_code
def yX0_begin : MethodName := ⟨RX0, "begin", "(II)V"⟩
abbrev cX0_reaches : ByteArray := prog_2_method_3_code
def yX0_reaches : MethodName := ⟨RX0, "reaches", "(II)Z"⟩
abbrev cX0_faultOfTaking : ByteArray := prog_2_method_4_code
def yX0_faultOfTaking : MethodName := ⟨RX0, "faultOfTaking", "(III)I"⟩
abbrev cX0_codeAt : ByteArray := prog_2_method_5_code
def yX0_codeAt : MethodName := ⟨RX0, "codeAt", "(I)I"⟩
abbrev cX0_digitAt : ByteArray := prog_2_method_6_code
def yX0_digitAt : MethodName := ⟨RX0, "digitAt", "(I)I"⟩
abbrev cX0_standsAt : ByteArray := prog_2_method_7_code
def yX0_standsAt : MethodName := ⟨RX0, "standsAt", "(I[I)Z"⟩
def RX1 : String := "YardNames$Ship"
def TX1 : u_T := fun k => match k with
  | 0 => ("YardNames$Ship", "kind", "I", false)
  | 1 => ("YardNames$Ship", "namedAfter", "I", false)
  | 2 => ("YardNames$Ship", "strength", "I", false)
  | 3 => ("YardNames$Ship", "port", "I", false)
  | _ => ("YardNames$Ship", "carried", "[I", true)
def tyX1 : Nat → FieldType := fun k => match k with
  | 0 => .int
  | 1 => .int
  | 2 => .int
  | 3 => .int
  | _ => .array .int
theorem nmX1 : ∀ a, a < 5 → ∀ b, b < 5 → a ≠ b → (TX1 a).2.1 ≠ (TX1 b).2.1 := by decide +kernel
theorem tyX1_ok : ∀ k, k < 5 → parseFieldDescriptor (TX1 k).2.2.1 = some (tyX1 k) := by decide +kernel
abbrev cX1_init : ByteArray := prog_3_method_1_code
def yX1_init : MethodName := ⟨RX1, "<init>", "()V"⟩
abbrev cX1_bearing : ByteArray := prog_3_method_2_code
def yX1_bearing : MethodName := ⟨RX1, "bearing", "()I"⟩
abbrev cX1_isMet : ByteArray := prog_3_method_3_code
def yX1_isMet : MethodName := ⟨RX1, "isMet", "()Z"⟩
abbrev cX1_worth : ByteArray := prog_3_method_4_code
def yX1_worth : MethodName := ⟨RX1, "worth", "()I"⟩
abbrev cX1_pieces : ByteArray := prog_3_method_5_code
def yX1_pieces : MethodName := ⟨RX1, "pieces", "()I"⟩
abbrev cX1_goodThatGoes : ByteArray := prog_3_method_6_code
def yX1_goodThatGoes : MethodName := ⟨RX1, "goodThatGoes", "()I"⟩
abbrev cX1_doAct : ByteArray := prog_3_method_7_code
def yX1_doAct : MethodName := ⟨RX1, "doAct", "(I)Z"⟩
abbrev cX1_becomeLike : ByteArray := prog_3_method_8_code
def yX1_becomeLike : MethodName := ⟨RX1, "becomeLike", "(LYardNames$Ship;)V"⟩
def RX2 : String := "YardNames$Stowing"
def TX2 : u_T := fun k => match k with
  | 0 => ("YardNames$Stowing", "leastLost", "I", false)
  | 1 => ("YardNames$Stowing", "mostLeft", "I", false)
  | 2 => ("YardNames$Stowing", "best", "[I", true)
  | 3 => ("YardNames$Stowing", "tried", "[I", true)
  | _ => ("YardNames$Stowing", "lost", "[I", true)
def tyX2 : Nat → FieldType := fun k => match k with
  | 0 => .int
  | 1 => .int
  | 2 => .array .int
  | 3 => .array .int
  | _ => .array .int
theorem nmX2 : ∀ a, a < 5 → ∀ b, b < 5 → a ≠ b → (TX2 a).2.1 ≠ (TX2 b).2.1 := by decide +kernel
theorem tyX2_ok : ∀ k, k < 5 → parseFieldDescriptor (TX2 k).2.2.1 = some (tyX2 k) := by decide +kernel
abbrev cX2_init : ByteArray := prog_4_method_1_code
def yX2_init : MethodName := ⟨RX2, "<init>", "()V"⟩
abbrev cX2_choose : ByteArray := prog_4_method_2_code
def yX2_choose : MethodName := ⟨RX2, "choose", "(III)V"⟩
abbrev cX2_chooseRest : ByteArray := prog_4_method_3_code
def yX2_chooseRest : MethodName := ⟨RX2, "chooseRest", "(III)V"⟩
abbrev cX2_weigh : ByteArray := prog_4_method_4_code
def yX2_weigh : MethodName := ⟨RX2, "weigh", "(II)V"⟩
def RX3 : String := "YardNames$Tally"
def TX3 : u_T := fun k => match k with
  | 0 => ("YardNames$Tally", "lostPieces", "I", false)
  | 1 => ("YardNames$Tally", "lostWorth", "I", false)
  | _ => ("YardNames$Tally", "firstShip", "I", false)
def tyX3 : Nat → FieldType := fun k => match k with
  | 0 => .int
  | 1 => .int
  | _ => .int
theorem nmX3 : ∀ a, a < 3 → ∀ b, b < 3 → a ≠ b → (TX3 a).2.1 ≠ (TX3 b).2.1 := by decide +kernel
theorem tyX3_ok : ∀ k, k < 3 → parseFieldDescriptor (TX3 k).2.2.1 = some (tyX3 k) := by decide +kernel
abbrev cX3_init : ByteArray := prog_5_method_1_code
def yX3_init : MethodName := ⟨RX3, "<init>", "()V"⟩
abbrev cX3_begin : ByteArray := prog_5_method_2_code
def yX3_begin : MethodName := ⟨RX3, "begin", "()V"⟩
abbrev cX3_count : ByteArray := prog_5_method_3_code
def yX3_count : MethodName := ⟨RX3, "count", "(IIZ)V"⟩
def RX4 : String := "YardNames"
def TX4 : u_T := fun k => match k with
  | 0 => ("YardNames", "roughs", "[I", true)
  | 1 => ("YardNames", "portCount", "I", false)
  | 2 => ("YardNames", "fleet", "[LYardNames$Ship;", true)
  | 3 => ("YardNames", "shipCount", "I", false)
  | 4 => ("YardNames", "today", "I", false)
  | 5 => ("YardNames", "toldFleet", "[LYardNames$Ship;", true)
  | 6 => ("YardNames", "tally", "LYardNames$Tally;", true)
  | 7 => ("YardNames", "stowing", "LYardNames$Stowing;", true)
  | 8 => ("YardNames", "losses", "[I", true)
  | 9 => ("YardNames", "readShips", "[I", true)
  | 10 => ("YardNames", "readPorts", "[I", true)
  | 11 => ("YardNames", "readLosses", "[I", true)
  | 12 => ("YardNames", "readingCount", "I", false)
  | 13 => ("YardNames", "rows", "[LYardNames$Row;", true)
  | 14 => ("YardNames", "traced", "I", false)
  | _ => ("YardNames", "lastFault", "I", false)
def tyX4 : Nat → FieldType := fun k => match k with
  | 0 => .array .int
  | 1 => .int
  | 2 => .array (.object "YardNames$Ship")
  | 3 => .int
  | 4 => .int
  | 5 => .array (.object "YardNames$Ship")
  | 6 => .object "YardNames$Tally"
  | 7 => .object "YardNames$Stowing"
  | 8 => .array .int
  | 9 => .array .int
  | 10 => .array .int
  | 11 => .array .int
  | 12 => .int
  | 13 => .array (.object "YardNames$Row")
  | 14 => .int
  | _ => .int
theorem nmX4 : ∀ a, a < 16 → ∀ b, b < 16 → a ≠ b → (TX4 a).2.1 ≠ (TX4 b).2.1 := by decide +kernel
theorem tyX4_ok : ∀ k, k < 16 → parseFieldDescriptor (TX4 k).2.2.1 = some (tyX4 k) := by decide +kernel
abbrev cX4_init : ByteArray := prog_1_method_1_code
def yX4_init : MethodName := ⟨RX4, "<init>", "()V"⟩
abbrev cX4_sea : ByteArray := prog_1_method_2_code
def yX4_sea : MethodName := ⟨RX4, "sea", "(IIII)I"⟩
abbrev cX4_ofShip : ByteArray := prog_1_method_3_code
def yX4_ofShip : MethodName := ⟨RX4, "ofShip", "(II)I"⟩
abbrev cX4_rough : ByteArray := prog_1_method_4_code
def yX4_rough : MethodName := ⟨RX4, "rough", "(I)I"⟩
abbrev cX4_blow : ByteArray := prog_1_method_5_code
def yX4_blow : MethodName := ⟨RX4, "blow", "(II)I"⟩
abbrev cX4_name : ByteArray := prog_1_method_6_code
def yX4_name : MethodName := ⟨RX4, "name", "(II)I"⟩
abbrev cX4_days : ByteArray := prog_1_method_7_code
def yX4_days : MethodName := ⟨RX4, "days", "(I)I"⟩
abbrev cX4_load : ByteArray := prog_1_method_8_code
def yX4_load : MethodName := ⟨RX4, "load", "(III)I"⟩
abbrev cX4_off : ByteArray := prog_1_method_9_code
def yX4_off : MethodName := ⟨RX4, "off", "(III)I"⟩
abbrev cX4_voyage : ByteArray := prog_1_method_10_code
def yX4_voyage : MethodName := ⟨RX4, "voyage", "(IIIII)I"⟩
abbrev cX4_keeps : ByteArray := prog_1_method_11_code
def yX4_keeps : MethodName := ⟨RX4, "keeps", "(I)I"⟩
abbrev cX4_harbour : ByteArray := prog_1_method_12_code
def yX4_harbour : MethodName := ⟨RX4, "harbour", "(III)I"⟩
abbrev cX4_stow : ByteArray := prog_1_method_13_code
def yX4_stow : MethodName := ⟨RX4, "stow", "(IIII)I"⟩
abbrev cX4_cover : ByteArray := prog_1_method_14_code
def yX4_cover : MethodName := ⟨RX4, "cover", "()I"⟩
abbrev cX4_reading : ByteArray := prog_1_method_15_code
def yX4_reading : MethodName := ⟨RX4, "reading", "(III)I"⟩
abbrev cX4_back : ByteArray := prog_1_method_16_code
def yX4_back : MethodName := ⟨RX4, "back", "(I)I"⟩
abbrev cX4_strengths : ByteArray := prog_1_method_17_code
def yX4_strengths : MethodName := ⟨RX4, "strengths", "(I)I"⟩
abbrev cX4_kinds : ByteArray := prog_1_method_18_code
def yX4_kinds : MethodName := ⟨RX4, "kinds", "(I)I"⟩
abbrev cX4_names : ByteArray := prog_1_method_19_code
def yX4_names : MethodName := ⟨RX4, "names", "(IIIII)I"⟩
abbrev cX4_odds : ByteArray := prog_1_method_20_code
def yX4_odds : MethodName := ⟨RX4, "odds", "(III)J"⟩
abbrev cX4_premium : ByteArray := prog_1_method_21_code
def yX4_premium : MethodName := ⟨RX4, "premium", "(II)J"⟩
abbrev cX4_sheet : ByteArray := prog_1_method_22_code
def yX4_sheet : MethodName := ⟨RX4, "sheet", "(III)I"⟩
abbrev cX4_lose : ByteArray := prog_1_method_23_code
def yX4_lose : MethodName := ⟨RX4, "lose", "(I)I"⟩
abbrev cX4_put : ByteArray := prog_1_method_24_code
def yX4_put : MethodName := ⟨RX4, "put", "(III)I"⟩
abbrev cX4_cell : ByteArray := prog_1_method_25_code
def yX4_cell : MethodName := ⟨RX4, "cell", "(III)J"⟩
abbrev cX4_copy : ByteArray := prog_1_method_26_code
def yX4_copy : MethodName := ⟨RX4, "copy", "(IIIII)I"⟩
abbrev cX4_tell : ByteArray := prog_1_method_27_code
def yX4_tell : MethodName := ⟨RX4, "tell", "(I)I"⟩
abbrev cX4_hail : ByteArray := prog_1_method_28_code
def yX4_hail : MethodName := ⟨RX4, "hail", "(I)I"⟩
abbrev cX4_as : ByteArray := prog_1_method_29_code
def yX4_as : MethodName := ⟨RX4, "as", "(II)I"⟩
abbrev cX4_trace : ByteArray := prog_1_method_30_code
def yX4_trace : MethodName := ⟨RX4, "trace", "()I"⟩
abbrev cX4_fault : ByteArray := prog_1_method_31_code
def yX4_fault : MethodName := ⟨RX4, "fault", "()I"⟩
abbrev cX4_many : ByteArray := prog_1_method_32_code
def yX4_many : MethodName := ⟨RX4, "many", "(I)I"⟩
abbrev cX4_hasSea : ByteArray := prog_1_method_33_code
def yX4_hasSea : MethodName := ⟨RX4, "hasSea", "()Z"⟩
abbrev cX4_isShip : ByteArray := prog_1_method_34_code
def yX4_isShip : MethodName := ⟨RX4, "isShip", "(I)Z"⟩
abbrev cX4_isPort : ByteArray := prog_1_method_35_code
def yX4_isPort : MethodName := ⟨RX4, "isPort", "(I)Z"⟩
abbrev cX4_isSheet : ByteArray := prog_1_method_36_code
def yX4_isSheet : MethodName := ⟨RX4, "isSheet", "(I)Z"⟩
abbrev cX4_isGood : ByteArray := prog_1_method_37_code
def yX4_isGood : MethodName := ⟨RX4, "isGood", "(I)Z"⟩
abbrev cX4_isLot : ByteArray := prog_1_method_38_code
def yX4_isLot : MethodName := ⟨RX4, "isLot", "(I)Z"⟩
abbrev cX4_isBelow : ByteArray := prog_1_method_39_code
def yX4_isBelow : MethodName := ⟨RX4, "isBelow", "(II)Z"⟩
abbrev cX4_isUpTo : ByteArray := prog_1_method_40_code
def yX4_isUpTo : MethodName := ⟨RX4, "isUpTo", "(II)Z"⟩
abbrev cX4_faulted : ByteArray := prog_1_method_41_code
def yX4_faulted : MethodName := ⟨RX4, "faulted", "(I)I"⟩
abbrev cX4_firstFault : ByteArray := prog_1_method_42_code
def yX4_firstFault : MethodName := ⟨RX4, "firstFault", "(LYardNames$Row;II)I"⟩
abbrev cX4_countPorts : ByteArray := prog_1_method_43_code
def yX4_countPorts : MethodName := ⟨RX4, "countPorts", "(LYardNames$Row;II)I"⟩
abbrev cX4_countShipCodes : ByteArray := prog_1_method_44_code
def yX4_countShipCodes : MethodName := ⟨RX4, "countShipCodes", "(LYardNames$Row;III)I"⟩
abbrev cX4_isShipCode : ByteArray := prog_1_method_45_code
def yX4_isShipCode : MethodName := ⟨RX4, "isShipCode", "(III)Z"⟩
abbrev cX4_isDigit : ByteArray := prog_1_method_46_code
def yX4_isDigit : MethodName := ⟨RX4, "isDigit", "(II)Z"⟩
abbrev cX4_kindByCode : ByteArray := prog_1_method_47_code
def yX4_kindByCode : MethodName := ⟨RX4, "kindByCode", "(I)I"⟩
abbrev cX4_takeText : ByteArray := prog_1_method_48_code
def yX4_takeText : MethodName := ⟨RX4, "takeText", "(LYardNames$Row;II)V"⟩
abbrev cX4_takeShip : ByteArray := prog_1_method_49_code
def yX4_takeShip : MethodName := ⟨RX4, "takeShip", "(LYardNames$Ship;LYardNames$Row;I)V"⟩
abbrev cX4_portBehind : ByteArray := prog_1_method_50_code
def yX4_portBehind : MethodName := ⟨RX4, "portBehind", "(I)I"⟩
abbrev cX4_sailDay : ByteArray := prog_1_method_51_code
def yX4_sailDay : MethodName := ⟨RX4, "sailDay", "(LYardNames$Ship;)I"⟩
abbrev cX4_roughDays : ByteArray := prog_1_method_52_code
def yX4_roughDays : MethodName := ⟨RX4, "roughDays", "(III)I"⟩
abbrev cX4_roughPorts : ByteArray := prog_1_method_53_code
def yX4_roughPorts : MethodName := ⟨RX4, "roughPorts", "(I)I"⟩
abbrev cX4_worthLostFrom : ByteArray := prog_1_method_54_code
def yX4_worthLostFrom : MethodName := ⟨RX4, "worthLostFrom", "(LYardNames$Ship;II)I"⟩
abbrev cX4_fillLosses : ByteArray := prog_1_method_55_code
def yX4_fillLosses : MethodName := ⟨RX4, "fillLosses", "([III[I)V"⟩
abbrev cX4_worthOf : ByteArray := prog_1_method_56_code
def yX4_worthOf : MethodName := ⟨RX4, "worthOf", "(I)I"⟩
abbrev cX4_worthOfAll : ByteArray := prog_1_method_57_code
def yX4_worthOfAll : MethodName := ⟨RX4, "worthOfAll", "([I)I"⟩
abbrev cX4_bearingOf : ByteArray := prog_1_method_58_code
def yX4_bearingOf : MethodName := ⟨RX4, "bearingOf", "(II)I"⟩
abbrev cX4_metOf : ByteArray := prog_1_method_59_code
def yX4_metOf : MethodName := ⟨RX4, "metOf", "([LYardNames$Ship;)I"⟩
abbrev cX4_isAskedOfVoyage : ByteArray := prog_1_method_60_code
def yX4_isAskedOfVoyage : MethodName := ⟨RX4, "isAskedOfVoyage", "(I)Z"⟩
abbrev cX4_refusalOfPairs : ByteArray := prog_1_method_61_code
def yX4_refusalOfPairs : MethodName := ⟨RX4, "refusalOfPairs", "(LYardNames$Row;II)I"⟩
abbrev cX4_sailVoyage : ByteArray := prog_1_method_62_code
def yX4_sailVoyage : MethodName := ⟨RX4, "sailVoyage", "(LYardNames$Row;II)I"⟩
abbrev cX4_sailToldDays : ByteArray := prog_1_method_63_code
def yX4_sailToldDays : MethodName := ⟨RX4, "sailToldDays", "(I)V"⟩
abbrev cX4_ofVoyage : ByteArray := prog_1_method_64_code
def yX4_ofVoyage : MethodName := ⟨RX4, "ofVoyage", "(I)I"⟩
abbrev cX4_readingsAreSo : ByteArray := prog_1_method_65_code
def yX4_readingsAreSo : MethodName := ⟨RX4, "readingsAreSo", "(II)Z"⟩
abbrev cX4_ofShare : ByteArray := prog_1_method_66_code
def yX4_ofShare : MethodName := ⟨RX4, "ofShare", "(III)J"⟩
abbrev cX4_commonDivisor : ByteArray := prog_1_method_67_code
def yX4_commonDivisor : MethodName := ⟨RX4, "commonDivisor", "(II)I"⟩
abbrev cX4_leave : ByteArray := prog_1_method_68_code
def yX4_leave : MethodName := ⟨RX4, "leave", "(I)V"⟩
abbrev cX4_tellBarge : ByteArray := prog_1_method_69_code
def yX4_tellBarge : MethodName := ⟨RX4, "tellBarge", "(LYardNames$Ship;)I"⟩
abbrev cX4_tellCutter : ByteArray := prog_1_method_70_code
def yX4_tellCutter : MethodName := ⟨RX4, "tellCutter", "(LYardNames$Ship;)I"⟩
abbrev cX4_tellSloop : ByteArray := prog_1_method_71_code
def yX4_tellSloop : MethodName := ⟨RX4, "tellSloop", "(LYardNames$Ship;)I"⟩
abbrev cX4_hailLent : ByteArray := prog_1_method_72_code
def yX4_hailLent : MethodName := ⟨RX4, "hailLent", "(LYardNames$Ship;)I"⟩
abbrev cX4_hailSloop : ByteArray := prog_1_method_73_code
def yX4_hailSloop : MethodName := ⟨RX4, "hailSloop", "()I"⟩
abbrev cX4_cutTo : ByteArray := prog_1_method_74_code
def yX4_cutTo : MethodName := ⟨RX4, "cutTo", "(II)I"⟩
def RX5 : String := "YardNamesModel"
def TX5 : u_T := fun k => match k with
  | 0 => ("YardNamesModel", "fault", "I", false)
  | 1 => ("YardNamesModel", "trace", "I", false)
  | 2 => ("YardNamesModel", "sorts", "[I", true)
  | 3 => ("YardNamesModel", "sheetLong", "[I", true)
  | 4 => ("YardNamesModel", "cells", "[I", true)
  | 5 => ("YardNamesModel", "ports", "I", false)
  | 6 => ("YardNamesModel", "ships", "I", false)
  | 7 => ("YardNamesModel", "day", "I", false)
  | 8 => ("YardNamesModel", "roughOf", "[I", true)
  | 9 => ("YardNamesModel", "kind", "[I", true)
  | 10 => ("YardNamesModel", "nameOf", "[I", true)
  | 11 => ("YardNamesModel", "strength", "[I", true)
  | 12 => ("YardNamesModel", "portOf", "[I", true)
  | 13 => ("YardNamesModel", "carries", "[I", true)
  | 14 => ("YardNamesModel", "at", "I", false)
  | 15 => ("YardNamesModel", "readPorts", "I", false)
  | 16 => ("YardNamesModel", "readShips", "I", false)
  | 17 => ("YardNamesModel", "readRough", "[I", true)
  | 18 => ("YardNamesModel", "read", "[I", true)
  | 19 => ("YardNamesModel", "keptPort", "[I", true)
  | 20 => ("YardNamesModel", "kept", "[I", true)
  | 21 => ("YardNamesModel", "lostPieces", "I", false)
  | 22 => ("YardNamesModel", "lostWorth", "I", false)
  | 23 => ("YardNamesModel", "lostFirst", "I", false)
  | 24 => ("YardNamesModel", "stowed", "[I", true)
  | 25 => ("YardNamesModel", "stowLost", "I", false)
  | 26 => ("YardNamesModel", "stowLeft", "I", false)
  | 27 => ("YardNamesModel", "readings", "I", false)
  | 28 => ("YardNamesModel", "readWhich", "[I", true)
  | 29 => ("YardNamesModel", "readPort", "[I", true)
  | _ => ("YardNamesModel", "readLost", "[I", true)
def tyX5 : Nat → FieldType := fun k => match k with
  | 0 => .int
  | 1 => .int
  | 2 => .array .int
  | 3 => .array .int
  | 4 => .array .int
  | 5 => .int
  | 6 => .int
  | 7 => .int
  | 8 => .array .int
  | 9 => .array .int
  | 10 => .array .int
  | 11 => .array .int
  | 12 => .array .int
  | 13 => .array .int
  | 14 => .int
  | 15 => .int
  | 16 => .int
  | 17 => .array .int
  | 18 => .array .int
  | 19 => .array .int
  | 20 => .array .int
  | 21 => .int
  | 22 => .int
  | 23 => .int
  | 24 => .array .int
  | 25 => .int
  | 26 => .int
  | 27 => .int
  | 28 => .array .int
  | 29 => .array .int
  | _ => .array .int
theorem nmX5 : ∀ a, a < 31 → ∀ b, b < 31 → a ≠ b → (TX5 a).2.1 ≠ (TX5 b).2.1 := by decide +kernel
theorem tyX5_ok : ∀ k, k < 31 → parseFieldDescriptor (TX5 k).2.2.1 = some (tyX5 k) := by decide +kernel
abbrev cX5_init : ByteArray := prog_7_method_1_code
def yX5_init : MethodName := ⟨RX5, "<init>", "()V"⟩
abbrev cX5_fails : ByteArray := prog_7_method_3_code
def yX5_fails : MethodName := ⟨RX5, "fails", "(I)I"⟩
abbrev cX5_lost : ByteArray := prog_7_method_4_code
def yX5_lost : MethodName := ⟨RX5, "lost", "(I)J"⟩
abbrev cX5_within : ByteArray := prog_7_method_5_code
def yX5_within : MethodName := ⟨RX5, "within", "(III)Z"⟩
abbrev cX5_isSheet : ByteArray := prog_7_method_6_code
def yX5_isSheet : MethodName := ⟨RX5, "isSheet", "(I)Z"⟩
abbrev cX5_isSort : ByteArray := prog_7_method_7_code
def yX5_isSort : MethodName := ⟨RX5, "isSort", "(I)Z"⟩
abbrev cX5_against : ByteArray := prog_7_method_8_code
def yX5_against : MethodName := ⟨RX5, "against", "(IIII)I"⟩
abbrev cX5_isShip : ByteArray := prog_7_method_9_code
def yX5_isShip : MethodName := ⟨RX5, "isShip", "(I)Z"⟩
abbrev cX5_isPort : ByteArray := prog_7_method_10_code
def yX5_isPort : MethodName := ⟨RX5, "isPort", "(I)Z"⟩
abbrev cX5_isGood : ByteArray := prog_7_method_11_code
def yX5_isGood : MethodName := ⟨RX5, "isGood", "(I)Z"⟩
abbrev cX5_isDigit : ByteArray := prog_7_method_12_code
def yX5_isDigit : MethodName := ⟨RX5, "isDigit", "(I)Z"⟩
abbrev cX5_digit : ByteArray := prog_7_method_13_code
def yX5_digit : MethodName := ⟨RX5, "digit", "(III)I"⟩
abbrev cX5_isSign : ByteArray := prog_7_method_14_code
def yX5_isSign : MethodName := ⟨RX5, "isSign", "(II)Z"⟩
abbrev cX5_sea : ByteArray := prog_7_method_15_code
def yX5_sea : MethodName := ⟨RX5, "sea", "(IIII)I"⟩
abbrev cX5_takeSea : ByteArray := prog_7_method_16_code
def yX5_takeSea : MethodName := ⟨RX5, "takeSea", "()V"⟩
abbrev cX5_readSea : ByteArray := prog_7_method_17_code
def yX5_readSea : MethodName := ⟨RX5, "readSea", "(I)Z"⟩
abbrev cX5_readThePorts : ByteArray := prog_7_method_18_code
def yX5_readThePorts : MethodName := ⟨RX5, "readThePorts", "(I)Z"⟩
abbrev cX5_readShip : ByteArray := prog_7_method_19_code
def yX5_readShip : MethodName := ⟨RX5, "readShip", "(I)Z"⟩
abbrev cX5_bearsOf : ByteArray := prog_7_method_20_code
def yX5_bearsOf : MethodName := ⟨RX5, "bearsOf", "(I)I"⟩
abbrev cX5_isMet : ByteArray := prog_7_method_21_code
def yX5_isMet : MethodName := ⟨RX5, "isMet", "(I)Z"⟩
abbrev cX5_worthOf : ByteArray := prog_7_method_22_code
def yX5_worthOf : MethodName := ⟨RX5, "worthOf", "(I)I"⟩
abbrev cX5_piecesOf : ByteArray := prog_7_method_23_code
def yX5_piecesOf : MethodName := ⟨RX5, "piecesOf", "(I)I"⟩
abbrev cX5_ofShip : ByteArray := prog_7_method_24_code
def yX5_ofShip : MethodName := ⟨RX5, "ofShip", "(II)I"⟩
abbrev cX5_rough : ByteArray := prog_7_method_25_code
def yX5_rough : MethodName := ⟨RX5, "rough", "(I)I"⟩
abbrev cX5_blow : ByteArray := prog_7_method_26_code
def yX5_blow : MethodName := ⟨RX5, "blow", "(II)I"⟩
abbrev cX5_name : ByteArray := prog_7_method_27_code
def yX5_name : MethodName := ⟨RX5, "name", "(II)I"⟩
abbrev cX5_wouldLose : ByteArray := prog_7_method_28_code
def yX5_wouldLose : MethodName := ⟨RX5, "wouldLose", "(I)I"⟩
abbrev cX5_goesOn : ByteArray := prog_7_method_29_code
def yX5_goesOn : MethodName := ⟨RX5, "goesOn", "(I)I"⟩
abbrev cX5_days : ByteArray := prog_7_method_30_code
def yX5_days : MethodName := ⟨RX5, "days", "(I)I"⟩
abbrev cX5_load : ByteArray := prog_7_method_31_code
def yX5_load : MethodName := ⟨RX5, "load", "(III)I"⟩
abbrev cX5_off : ByteArray := prog_7_method_32_code
def yX5_off : MethodName := ⟨RX5, "off", "(III)I"⟩
abbrev cX5_keep : ByteArray := prog_7_method_33_code
def yX5_keep : MethodName := ⟨RX5, "keep", "()V"⟩
abbrev cX5_putBack : ByteArray := prog_7_method_34_code
def yX5_putBack : MethodName := ⟨RX5, "putBack", "()V"⟩
abbrev cX5_noteLoss : ByteArray := prog_7_method_35_code
def yX5_noteLoss : MethodName := ⟨RX5, "noteLoss", "(II)V"⟩
abbrev cX5_does : ByteArray := prog_7_method_36_code
def yX5_does : MethodName := ⟨RX5, "does", "(II)Z"⟩
abbrev cX5_goVoyage : ByteArray := prog_7_method_37_code
def yX5_goVoyage : MethodName := ⟨RX5, "goVoyage", "(II)I"⟩
abbrev cX5_refusesPair : ByteArray := prog_7_method_38_code
def yX5_refusesPair : MethodName := ⟨RX5, "refusesPair", "(II)I"⟩
abbrev cX5_voyage : ByteArray := prog_7_method_39_code
def yX5_voyage : MethodName := ⟨RX5, "voyage", "(IIIII)I"⟩
abbrev cX5_metNow : ByteArray := prog_7_method_40_code
def yX5_metNow : MethodName := ⟨RX5, "metNow", "()I"⟩
abbrev cX5_tellVoyage : ByteArray := prog_7_method_41_code
def yX5_tellVoyage : MethodName := ⟨RX5, "tellVoyage", "(I)I"⟩
abbrev cX5_keeps : ByteArray := prog_7_method_42_code
def yX5_keeps : MethodName := ⟨RX5, "keeps", "(I)I"⟩
abbrev cX5_losesIn : ByteArray := prog_7_method_43_code
def yX5_losesIn : MethodName := ⟨RX5, "losesIn", "(II)I"⟩
abbrev cX5_harbour : ByteArray := prog_7_method_44_code
def yX5_harbour : MethodName := ⟨RX5, "harbour", "(III)I"⟩
abbrev cX5_tryStow : ByteArray := prog_7_method_45_code
def yX5_tryStow : MethodName := ⟨RX5, "tryStow", "(III)V"⟩
abbrev cX5_digitSum : ByteArray := prog_7_method_46_code
def yX5_digitSum : MethodName := ⟨RX5, "digitSum", "(I)I"⟩
abbrev cX5_stow : ByteArray := prog_7_method_47_code
def yX5_stow : MethodName := ⟨RX5, "stow", "(IIII)I"⟩
abbrev cX5_size : ByteArray := prog_7_method_48_code
def yX5_size : MethodName := ⟨RX5, "size", "(I)I"⟩
abbrev cX5_namesOf : ByteArray := prog_7_method_49_code
def yX5_namesOf : MethodName := ⟨RX5, "namesOf", "(I)I"⟩
abbrev cX5_cover : ByteArray := prog_7_method_50_code
def yX5_cover : MethodName := ⟨RX5, "cover", "()I"⟩
abbrev cX5_reading : ByteArray := prog_7_method_51_code
def yX5_reading : MethodName := ⟨RX5, "reading", "(III)I"⟩
abbrev cX5_back : ByteArray := prog_7_method_52_code
def yX5_back : MethodName := ⟨RX5, "back", "(I)I"⟩
abbrev cX5_areSo : ByteArray := prog_7_method_53_code
def yX5_areSo : MethodName := ⟨RX5, "areSo", "()Z"⟩
abbrev cX5_strengths : ByteArray := prog_7_method_54_code
def yX5_strengths : MethodName := ⟨RX5, "strengths", "(I)I"⟩
abbrev cX5_kinds : ByteArray := prog_7_method_55_code
def yX5_kinds : MethodName := ⟨RX5, "kinds", "(I)I"⟩
abbrev cX5_isLossOf : ByteArray := prog_7_method_56_code
def yX5_isLossOf : MethodName := ⟨RX5, "isLossOf", "(III)Z"⟩
abbrev cX5_names : ByteArray := prog_7_method_57_code
def yX5_names : MethodName := ⟨RX5, "names", "(IIIII)I"⟩
abbrev cX5_inLeastTerms : ByteArray := prog_7_method_58_code
def yX5_inLeastTerms : MethodName := ⟨RX5, "inLeastTerms", "(JJI)J"⟩
abbrev cX5_tooRough : ByteArray := prog_7_method_59_code
def yX5_tooRough : MethodName := ⟨RX5, "tooRough", "(I)I"⟩
abbrev cX5_odds : ByteArray := prog_7_method_60_code
def yX5_odds : MethodName := ⟨RX5, "odds", "(III)J"⟩
abbrev cX5_premium : ByteArray := prog_7_method_61_code
def yX5_premium : MethodName := ⟨RX5, "premium", "(II)J"⟩
abbrev cX5_sheet : ByteArray := prog_7_method_62_code
def yX5_sheet : MethodName := ⟨RX5, "sheet", "(III)I"⟩
abbrev cX5_lose : ByteArray := prog_7_method_63_code
def yX5_lose : MethodName := ⟨RX5, "lose", "(I)I"⟩
abbrev cX5_put : ByteArray := prog_7_method_64_code
def yX5_put : MethodName := ⟨RX5, "put", "(III)I"⟩
abbrev cX5_cell : ByteArray := prog_7_method_65_code
def yX5_cell : MethodName := ⟨RX5, "cell", "(III)J"⟩
abbrev cX5_copy : ByteArray := prog_7_method_66_code
def yX5_copy : MethodName := ⟨RX5, "copy", "(IIIII)I"⟩
abbrev cX5_begins : ByteArray := prog_7_method_67_code
def yX5_begins : MethodName := ⟨RX5, "begins", "(I)V"⟩
abbrev cX5_tell : ByteArray := prog_7_method_68_code
def yX5_tell : MethodName := ⟨RX5, "tell", "(I)I"⟩
abbrev cX5_hail : ByteArray := prog_7_method_69_code
def yX5_hail : MethodName := ⟨RX5, "hail", "(I)I"⟩
abbrev cX5_as : ByteArray := prog_7_method_70_code
def yX5_as : MethodName := ⟨RX5, "as", "(II)I"⟩
abbrev cX5_trace : ByteArray := prog_7_method_71_code
def yX5_trace : MethodName := ⟨RX5, "trace", "()I"⟩
abbrev cX5_fault : ByteArray := prog_7_method_72_code
def yX5_fault : MethodName := ⟨RX5, "fault", "()I"⟩
abbrev cX5_many : ByteArray := prog_7_method_73_code
def yX5_many : MethodName := ⟨RX5, "many", "(I)I"⟩
def RL : String := "YardNamesLaw"
abbrev cL_law : ByteArray := code
def yL_law : MethodName := ⟨RL, "law", "([I)Z"⟩
end
section
theorem dX0_init_0 : decode cX0_init 0 = .ok (.aload_n 0, 1) := by decide +kernel
theorem dX0_init_1 : decode cX0_init 1 = .ok (.invokespecial 3, 3) := by decide +kernel
theorem dX0_init_4 : decode cX0_init 4 = .ok (.aload_n 0, 1) := by decide +kernel
theorem dX0_init_5 : decode cX0_init 5 = .ok (.bipush 60, 2) := by decide +kernel
theorem dX0_init_7 : decode cX0_init 7 = .ok (.newarray .int, 2) := by decide +kernel
theorem dX0_init_9 : decode cX0_init 9 = .ok (.putfield 9, 3) := by decide +kernel
theorem dX0_init_12 : decode cX0_init 12 = .ok (.return_, 1) := by decide +kernel
theorem dX0_begin_0 : decode cX0_begin 0 = .ok (.aload_n 0, 1) := by decide +kernel
theorem dX0_begin_1 : decode cX0_begin 1 = .ok (.iconst 1, 1) := by decide +kernel
theorem dX0_begin_2 : decode cX0_begin 2 = .ok (.putfield 15, 3) := by decide +kernel
theorem dX0_begin_5 : decode cX0_begin 5 = .ok (.aload_n 0, 1) := by decide +kernel
theorem dX0_begin_6 : decode cX0_begin 6 = .ok (.iload_n 1, 1) := by decide +kernel
theorem dX0_begin_7 : decode cX0_begin 7 = .ok (.putfield 19, 3) := by decide +kernel
theorem dX0_begin_10 : decode cX0_begin 10 = .ok (.aload_n 0, 1) := by decide +kernel
theorem dX0_begin_11 : decode cX0_begin 11 = .ok (.iload_n 2, 1) := by decide +kernel
theorem dX0_begin_12 : decode cX0_begin 12 = .ok (.putfield 23, 3) := by decide +kernel
theorem dX0_begin_15 : decode cX0_begin 15 = .ok (.iconst 0, 1) := by decide +kernel
theorem dX0_begin_16 : decode cX0_begin 16 = .ok (.istore_n 3, 1) := by decide +kernel
theorem dX0_begin_17 : decode cX0_begin 17 = .ok (.iload_n 3, 1) := by decide +kernel
theorem dX0_begin_18 : decode cX0_begin 18 = .ok (.iload_n 2, 1) := by decide +kernel
theorem dX0_begin_19 : decode cX0_begin 19 = .ok (.if_icmp .ge 22, 3) := by decide +kernel
theorem dX0_begin_22 : decode cX0_begin 22 = .ok (.iload_n 3, 1) := by decide +kernel
theorem dX0_begin_23 : decode cX0_begin 23 = .ok (.bipush 60, 2) := by decide +kernel
theorem dX0_begin_25 : decode cX0_begin 25 = .ok (.if_icmp .ge 16, 3) := by decide +kernel
theorem dX0_begin_28 : decode cX0_begin 28 = .ok (.aload_n 0, 1) := by decide +kernel
theorem dX0_begin_29 : decode cX0_begin 29 = .ok (.getfield 9, 3) := by decide +kernel
theorem dX0_begin_32 : decode cX0_begin 32 = .ok (.iload_n 3, 1) := by decide +kernel
theorem dX0_begin_33 : decode cX0_begin 33 = .ok (.iconst 0, 1) := by decide +kernel
theorem dX0_begin_34 : decode cX0_begin 34 = .ok (.iastore, 1) := by decide +kernel
theorem dX0_begin_35 : decode cX0_begin 35 = .ok (.iinc 3 1, 3) := by decide +kernel
theorem dX0_begin_38 : decode cX0_begin 38 = .ok (.goto (-21), 3) := by decide +kernel
theorem dX0_begin_41 : decode cX0_begin 41 = .ok (.return_, 1) := by decide +kernel
theorem dX0_reaches_0 : decode cX0_reaches 0 = .ok (.iload_n 1, 1) := by decide +kernel
theorem dX0_reaches_1 : decode cX0_reaches 1 = .ok (.aload_n 0, 1) := by decide +kernel
theorem dX0_reaches_2 : decode cX0_reaches 2 = .ok (.getfield 23, 3) := by decide +kernel
theorem dX0_reaches_5 : decode cX0_reaches 5 = .ok (.invokestatic 26, 3) := by decide +kernel
theorem dX0_reaches_8 : decode cX0_reaches 8 = .ok (.ifCond .eq 17, 3) := by decide +kernel
theorem dX0_reaches_11 : decode cX0_reaches 11 = .ok (.iload_n 2, 1) := by decide +kernel
theorem dX0_reaches_12 : decode cX0_reaches 12 = .ok (.aload_n 0, 1) := by decide +kernel
theorem dX0_reaches_13 : decode cX0_reaches 13 = .ok (.getfield 23, 3) := by decide +kernel
theorem dX0_reaches_16 : decode cX0_reaches 16 = .ok (.iload_n 1, 1) := by decide +kernel
theorem dX0_reaches_17 : decode cX0_reaches 17 = .ok (.isub, 1) := by decide +kernel
theorem dX0_reaches_18 : decode cX0_reaches 18 = .ok (.if_icmp .gt 7, 3) := by decide +kernel
theorem dX0_reaches_21 : decode cX0_reaches 21 = .ok (.iconst 1, 1) := by decide +kernel
theorem dX0_reaches_22 : decode cX0_reaches 22 = .ok (.goto 4, 3) := by decide +kernel
theorem dX0_reaches_25 : decode cX0_reaches 25 = .ok (.iconst 0, 1) := by decide +kernel
theorem dX0_reaches_26 : decode cX0_reaches 26 = .ok (.ireturn, 1) := by decide +kernel
theorem dX0_faultOfTaking_0 : decode cX0_faultOfTaking 0 = .ok (.aload_n 0, 1) := by decide +kernel
theorem dX0_faultOfTaking_1 : decode cX0_faultOfTaking 1 = .ok (.getfield 15, 3) := by decide +kernel
theorem dX0_faultOfTaking_4 : decode cX0_faultOfTaking 4 = .ok (.ifCond .eq 13, 3) := by decide +kernel
theorem dX0_faultOfTaking_7 : decode cX0_faultOfTaking 7 = .ok (.aload_n 0, 1) := by decide +kernel
theorem dX0_faultOfTaking_8 : decode cX0_faultOfTaking 8 = .ok (.getfield 19, 3) := by decide +kernel
theorem dX0_faultOfTaking_11 : decode cX0_faultOfTaking 11 = .ok (.iload_n 1, 1) := by decide +kernel
theorem dX0_faultOfTaking_12 : decode cX0_faultOfTaking 12 = .ok (.if_icmp .eq 5, 3) := by decide +kernel
theorem dX0_faultOfTaking_15 : decode cX0_faultOfTaking 15 = .ok (.iconst 2, 1) := by decide +kernel
theorem dX0_faultOfTaking_16 : decode cX0_faultOfTaking 16 = .ok (.ireturn, 1) := by decide +kernel
theorem dX0_faultOfTaking_17 : decode cX0_faultOfTaking 17 = .ok (.aload_n 0, 1) := by decide +kernel
theorem dX0_faultOfTaking_18 : decode cX0_faultOfTaking 18 = .ok (.getfield 15, 3) := by decide +kernel
theorem dX0_faultOfTaking_21 : decode cX0_faultOfTaking 21 = .ok (.ifCond .ne 5, 3) := by decide +kernel
theorem dX0_faultOfTaking_24 : decode cX0_faultOfTaking 24 = .ok (.iconst 1, 1) := by decide +kernel
theorem dX0_faultOfTaking_25 : decode cX0_faultOfTaking 25 = .ok (.ireturn, 1) := by decide +kernel
theorem dX0_faultOfTaking_26 : decode cX0_faultOfTaking 26 = .ok (.iload_n 3, 1) := by decide +kernel
theorem dX0_faultOfTaking_27 : decode cX0_faultOfTaking 27 = .ok (.ifCond .ge 5, 3) := by decide +kernel
theorem dX0_faultOfTaking_30 : decode cX0_faultOfTaking 30 = .ok (.iconst 4, 1) := by decide +kernel
theorem dX0_faultOfTaking_31 : decode cX0_faultOfTaking 31 = .ok (.ireturn, 1) := by decide +kernel
theorem dX0_faultOfTaking_32 : decode cX0_faultOfTaking 32 = .ok (.aload_n 0, 1) := by decide +kernel
theorem dX0_faultOfTaking_33 : decode cX0_faultOfTaking 33 = .ok (.iload_n 2, 1) := by decide +kernel
theorem dX0_faultOfTaking_34 : decode cX0_faultOfTaking 34 = .ok (.iload_n 3, 1) := by decide +kernel
theorem dX0_faultOfTaking_35 : decode cX0_faultOfTaking 35 = .ok (.invokevirtual 30, 3) := by decide +kernel
theorem dX0_faultOfTaking_38 : decode cX0_faultOfTaking 38 = .ok (.ifCond .eq 7, 3) := by decide +kernel
theorem dX0_faultOfTaking_41 : decode cX0_faultOfTaking 41 = .ok (.iconst 0, 1) := by decide +kernel
theorem dX0_faultOfTaking_42 : decode cX0_faultOfTaking 42 = .ok (.goto 4, 3) := by decide +kernel
theorem dX0_faultOfTaking_45 : decode cX0_faultOfTaking 45 = .ok (.iconst 3, 1) := by decide +kernel
theorem dX0_faultOfTaking_46 : decode cX0_faultOfTaking 46 = .ok (.ireturn, 1) := by decide +kernel
theorem dX0_codeAt_0 : decode cX0_codeAt 0 = .ok (.iload_n 1, 1) := by decide +kernel
theorem dX0_codeAt_1 : decode cX0_codeAt 1 = .ok (.aload_n 0, 1) := by decide +kernel
theorem dX0_codeAt_2 : decode cX0_codeAt 2 = .ok (.getfield 23, 3) := by decide +kernel
theorem dX0_codeAt_5 : decode cX0_codeAt 5 = .ok (.invokestatic 33, 3) := by decide +kernel
theorem dX0_codeAt_8 : decode cX0_codeAt 8 = .ok (.ifCond .eq 12, 3) := by decide +kernel
theorem dX0_codeAt_11 : decode cX0_codeAt 11 = .ok (.aload_n 0, 1) := by decide +kernel
theorem dX0_codeAt_12 : decode cX0_codeAt 12 = .ok (.getfield 9, 3) := by decide +kernel
theorem dX0_codeAt_15 : decode cX0_codeAt 15 = .ok (.iload_n 1, 1) := by decide +kernel
theorem dX0_codeAt_16 : decode cX0_codeAt 16 = .ok (.iaload, 1) := by decide +kernel
theorem dX0_codeAt_17 : decode cX0_codeAt 17 = .ok (.goto 5, 3) := by decide +kernel
theorem dX0_codeAt_20 : decode cX0_codeAt 20 = .ok (.bipush (-9), 2) := by decide +kernel
theorem dX0_codeAt_22 : decode cX0_codeAt 22 = .ok (.ireturn, 1) := by decide +kernel
theorem dX0_digitAt_0 : decode cX0_digitAt 0 = .ok (.aload_n 0, 1) := by decide +kernel
theorem dX0_digitAt_1 : decode cX0_digitAt 1 = .ok (.iload_n 1, 1) := by decide +kernel
theorem dX0_digitAt_2 : decode cX0_digitAt 2 = .ok (.invokevirtual 36, 3) := by decide +kernel
theorem dX0_digitAt_5 : decode cX0_digitAt 5 = .ok (.bipush 48, 2) := by decide +kernel
theorem dX0_digitAt_7 : decode cX0_digitAt 7 = .ok (.isub, 1) := by decide +kernel
theorem dX0_digitAt_8 : decode cX0_digitAt 8 = .ok (.ireturn, 1) := by decide +kernel
theorem dX0_standsAt_0 : decode cX0_standsAt 0 = .ok (.iconst 0, 1) := by decide +kernel
theorem dX0_standsAt_1 : decode cX0_standsAt 1 = .ok (.istore_n 3, 1) := by decide +kernel
theorem dX0_standsAt_2 : decode cX0_standsAt 2 = .ok (.iload_n 3, 1) := by decide +kernel
theorem dX0_standsAt_3 : decode cX0_standsAt 3 = .ok (.iconst 4, 1) := by decide +kernel
theorem dX0_standsAt_4 : decode cX0_standsAt 4 = .ok (.if_icmp .ge 24, 3) := by decide +kernel
theorem dX0_standsAt_7 : decode cX0_standsAt 7 = .ok (.aload_n 0, 1) := by decide +kernel
theorem dX0_standsAt_8 : decode cX0_standsAt 8 = .ok (.iload_n 1, 1) := by decide +kernel
theorem dX0_standsAt_9 : decode cX0_standsAt 9 = .ok (.iload_n 3, 1) := by decide +kernel
theorem dX0_standsAt_10 : decode cX0_standsAt 10 = .ok (.iadd, 1) := by decide +kernel
theorem dX0_standsAt_11 : decode cX0_standsAt 11 = .ok (.invokevirtual 36, 3) := by decide +kernel
theorem dX0_standsAt_14 : decode cX0_standsAt 14 = .ok (.aload_n 2, 1) := by decide +kernel
theorem dX0_standsAt_15 : decode cX0_standsAt 15 = .ok (.iload_n 3, 1) := by decide +kernel
theorem dX0_standsAt_16 : decode cX0_standsAt 16 = .ok (.iaload, 1) := by decide +kernel
theorem dX0_standsAt_17 : decode cX0_standsAt 17 = .ok (.if_icmp .eq 5, 3) := by decide +kernel
theorem dX0_standsAt_20 : decode cX0_standsAt 20 = .ok (.iconst 0, 1) := by decide +kernel
theorem dX0_standsAt_21 : decode cX0_standsAt 21 = .ok (.ireturn, 1) := by decide +kernel
theorem dX0_standsAt_22 : decode cX0_standsAt 22 = .ok (.iinc 3 1, 3) := by decide +kernel
theorem dX0_standsAt_25 : decode cX0_standsAt 25 = .ok (.goto (-23), 3) := by decide +kernel
theorem dX0_standsAt_28 : decode cX0_standsAt 28 = .ok (.iconst 1, 1) := by decide +kernel
theorem dX0_standsAt_29 : decode cX0_standsAt 29 = .ok (.ireturn, 1) := by decide +kernel
theorem dX1_init_0 : decode cX1_init 0 = .ok (.aload_n 0, 1) := by decide +kernel
theorem dX1_init_1 : decode cX1_init 1 = .ok (.invokespecial 3, 3) := by decide +kernel
theorem dX1_init_4 : decode cX1_init 4 = .ok (.aload_n 0, 1) := by decide +kernel
theorem dX1_init_5 : decode cX1_init 5 = .ok (.iconst 4, 1) := by decide +kernel
theorem dX1_init_6 : decode cX1_init 6 = .ok (.newarray .int, 2) := by decide +kernel
theorem dX1_init_8 : decode cX1_init 8 = .ok (.putfield 9, 3) := by decide +kernel
theorem dX1_init_11 : decode cX1_init 11 = .ok (.return_, 1) := by decide +kernel
theorem dX1_bearing_0 : decode cX1_bearing 0 = .ok (.aload_n 0, 1) := by decide +kernel
theorem dX1_bearing_1 : decode cX1_bearing 1 = .ok (.getfield 15, 3) := by decide +kernel
theorem dX1_bearing_4 : decode cX1_bearing 4 = .ok (.aload_n 0, 1) := by decide +kernel
theorem dX1_bearing_5 : decode cX1_bearing 5 = .ok (.getfield 19, 3) := by decide +kernel
theorem dX1_bearing_8 : decode cX1_bearing 8 = .ok (.invokestatic 22, 3) := by decide +kernel
theorem dX1_bearing_11 : decode cX1_bearing 11 = .ok (.ireturn, 1) := by decide +kernel
theorem dX1_isMet_0 : decode cX1_isMet 0 = .ok (.aload_n 0, 1) := by decide +kernel
theorem dX1_isMet_1 : decode cX1_isMet 1 = .ok (.getfield 9, 3) := by decide +kernel
theorem dX1_isMet_4 : decode cX1_isMet 4 = .ok (.aload_n 0, 1) := by decide +kernel
theorem dX1_isMet_5 : decode cX1_isMet 5 = .ok (.getfield 26, 3) := by decide +kernel
theorem dX1_isMet_8 : decode cX1_isMet 8 = .ok (.iaload, 1) := by decide +kernel
theorem dX1_isMet_9 : decode cX1_isMet 9 = .ok (.ifCond .ne 7, 3) := by decide +kernel
theorem dX1_isMet_12 : decode cX1_isMet 12 = .ok (.iconst 1, 1) := by decide +kernel
theorem dX1_isMet_13 : decode cX1_isMet 13 = .ok (.goto 4, 3) := by decide +kernel
theorem dX1_isMet_16 : decode cX1_isMet 16 = .ok (.iconst 0, 1) := by decide +kernel
theorem dX1_isMet_17 : decode cX1_isMet 17 = .ok (.ireturn, 1) := by decide +kernel
theorem dX1_worth_0 : decode cX1_worth 0 = .ok (.aload_n 0, 1) := by decide +kernel
theorem dX1_worth_1 : decode cX1_worth 1 = .ok (.getfield 9, 3) := by decide +kernel
theorem dX1_worth_4 : decode cX1_worth 4 = .ok (.invokestatic 29, 3) := by decide +kernel
theorem dX1_worth_7 : decode cX1_worth 7 = .ok (.ireturn, 1) := by decide +kernel
theorem dX1_pieces_0 : decode cX1_pieces 0 = .ok (.iconst 0, 1) := by decide +kernel
theorem dX1_pieces_1 : decode cX1_pieces 1 = .ok (.istore_n 1, 1) := by decide +kernel
theorem dX1_pieces_2 : decode cX1_pieces 2 = .ok (.iconst 0, 1) := by decide +kernel
theorem dX1_pieces_3 : decode cX1_pieces 3 = .ok (.istore_n 2, 1) := by decide +kernel
theorem dX1_pieces_4 : decode cX1_pieces 4 = .ok (.iload_n 2, 1) := by decide +kernel
theorem dX1_pieces_5 : decode cX1_pieces 5 = .ok (.iconst 4, 1) := by decide +kernel
theorem dX1_pieces_6 : decode cX1_pieces 6 = .ok (.if_icmp .ge 18, 3) := by decide +kernel
theorem dX1_pieces_9 : decode cX1_pieces 9 = .ok (.iload_n 1, 1) := by decide +kernel
theorem dX1_pieces_10 : decode cX1_pieces 10 = .ok (.aload_n 0, 1) := by decide +kernel
theorem dX1_pieces_11 : decode cX1_pieces 11 = .ok (.getfield 9, 3) := by decide +kernel
theorem dX1_pieces_14 : decode cX1_pieces 14 = .ok (.iload_n 2, 1) := by decide +kernel
theorem dX1_pieces_15 : decode cX1_pieces 15 = .ok (.iaload, 1) := by decide +kernel
theorem dX1_pieces_16 : decode cX1_pieces 16 = .ok (.iadd, 1) := by decide +kernel
theorem dX1_pieces_17 : decode cX1_pieces 17 = .ok (.istore_n 1, 1) := by decide +kernel
theorem dX1_pieces_18 : decode cX1_pieces 18 = .ok (.iinc 2 1, 3) := by decide +kernel
theorem dX1_pieces_21 : decode cX1_pieces 21 = .ok (.goto (-17), 3) := by decide +kernel
theorem dX1_pieces_24 : decode cX1_pieces 24 = .ok (.iload_n 1, 1) := by decide +kernel
theorem dX1_pieces_25 : decode cX1_pieces 25 = .ok (.ireturn, 1) := by decide +kernel
theorem dX1_goodThatGoes_0 : decode cX1_goodThatGoes 0 = .ok (.aload_n 0, 1) := by decide +kernel
theorem dX1_goodThatGoes_1 : decode cX1_goodThatGoes 1 = .ok (.invokevirtual 33, 3) := by decide +kernel
theorem dX1_goodThatGoes_4 : decode cX1_goodThatGoes 4 = .ok (.ifCond .ne 8, 3) := by decide +kernel
theorem dX1_goodThatGoes_7 : decode cX1_goodThatGoes 7 = .ok (.aload_n 0, 1) := by decide +kernel
theorem dX1_goodThatGoes_8 : decode cX1_goodThatGoes 8 = .ok (.getfield 26, 3) := by decide +kernel
theorem dX1_goodThatGoes_11 : decode cX1_goodThatGoes 11 = .ok (.ireturn, 1) := by decide +kernel
theorem dX1_goodThatGoes_12 : decode cX1_goodThatGoes 12 = .ok (.iconst 0, 1) := by decide +kernel
theorem dX1_goodThatGoes_13 : decode cX1_goodThatGoes 13 = .ok (.istore_n 1, 1) := by decide +kernel
theorem dX1_goodThatGoes_14 : decode cX1_goodThatGoes 14 = .ok (.iload_n 1, 1) := by decide +kernel
theorem dX1_goodThatGoes_15 : decode cX1_goodThatGoes 15 = .ok (.iconst 4, 1) := by decide +kernel
theorem dX1_goodThatGoes_16 : decode cX1_goodThatGoes 16 = .ok (.if_icmp .ge 20, 3) := by decide +kernel
theorem dX1_goodThatGoes_19 : decode cX1_goodThatGoes 19 = .ok (.aload_n 0, 1) := by decide +kernel
theorem dX1_goodThatGoes_20 : decode cX1_goodThatGoes 20 = .ok (.getfield 9, 3) := by decide +kernel
theorem dX1_goodThatGoes_23 : decode cX1_goodThatGoes 23 = .ok (.iload_n 1, 1) := by decide +kernel
theorem dX1_goodThatGoes_24 : decode cX1_goodThatGoes 24 = .ok (.iaload, 1) := by decide +kernel
theorem dX1_goodThatGoes_25 : decode cX1_goodThatGoes 25 = .ok (.ifCond .le 5, 3) := by decide +kernel
theorem dX1_goodThatGoes_28 : decode cX1_goodThatGoes 28 = .ok (.iload_n 1, 1) := by decide +kernel
theorem dX1_goodThatGoes_29 : decode cX1_goodThatGoes 29 = .ok (.ireturn, 1) := by decide +kernel
theorem dX1_goodThatGoes_30 : decode cX1_goodThatGoes 30 = .ok (.iinc 1 1, 3) := by decide +kernel
theorem dX1_goodThatGoes_33 : decode cX1_goodThatGoes 33 = .ok (.goto (-19), 3) := by decide +kernel
theorem dX1_goodThatGoes_36 : decode cX1_goodThatGoes 36 = .ok (.bipush (-9), 2) := by decide +kernel
theorem dX1_goodThatGoes_38 : decode cX1_goodThatGoes 38 = .ok (.ireturn, 1) := by decide +kernel
theorem dX1_doAct_0 : decode cX1_doAct 0 = .ok (.iload_n 1, 1) := by decide +kernel
theorem dX1_doAct_1 : decode cX1_doAct 1 = .ok (.iconst 4, 1) := by decide +kernel
theorem dX1_doAct_2 : decode cX1_doAct 2 = .ok (.if_icmp .ge 7, 3) := by decide +kernel
theorem dX1_doAct_5 : decode cX1_doAct 5 = .ok (.iload_n 1, 1) := by decide +kernel
theorem dX1_doAct_6 : decode cX1_doAct 6 = .ok (.goto 6, 3) := by decide +kernel
theorem dX1_doAct_9 : decode cX1_doAct 9 = .ok (.iload_n 1, 1) := by decide +kernel
theorem dX1_doAct_10 : decode cX1_doAct 10 = .ok (.iconst 4, 1) := by decide +kernel
theorem dX1_doAct_11 : decode cX1_doAct 11 = .ok (.isub, 1) := by decide +kernel
theorem dX1_doAct_12 : decode cX1_doAct 12 = .ok (.istore_n 2, 1) := by decide +kernel
theorem dX1_doAct_13 : decode cX1_doAct 13 = .ok (.iload_n 2, 1) := by decide +kernel
theorem dX1_doAct_14 : decode cX1_doAct 14 = .ok (.invokestatic 37, 3) := by decide +kernel
theorem dX1_doAct_17 : decode cX1_doAct 17 = .ok (.ifCond .eq 23, 3) := by decide +kernel
theorem dX1_doAct_20 : decode cX1_doAct 20 = .ok (.aload_n 0, 1) := by decide +kernel
theorem dX1_doAct_21 : decode cX1_doAct 21 = .ok (.getfield 9, 3) := by decide +kernel
theorem dX1_doAct_24 : decode cX1_doAct 24 = .ok (.iload_n 2, 1) := by decide +kernel
theorem dX1_doAct_25 : decode cX1_doAct 25 = .ok (.iaload, 1) := by decide +kernel
theorem dX1_doAct_26 : decode cX1_doAct 26 = .ok (.iload_n 1, 1) := by decide +kernel
theorem dX1_doAct_27 : decode cX1_doAct 27 = .ok (.iconst 4, 1) := by decide +kernel
theorem dX1_doAct_28 : decode cX1_doAct 28 = .ok (.if_icmp .ge 7, 3) := by decide +kernel
theorem dX1_doAct_31 : decode cX1_doAct 31 = .ok (.iconst 1, 1) := by decide +kernel
theorem dX1_doAct_32 : decode cX1_doAct 32 = .ok (.goto 4, 3) := by decide +kernel
theorem dX1_doAct_35 : decode cX1_doAct 35 = .ok (.iconst (-1), 1) := by decide +kernel
theorem dX1_doAct_36 : decode cX1_doAct 36 = .ok (.iadd, 1) := by decide +kernel
theorem dX1_doAct_37 : decode cX1_doAct 37 = .ok (.goto 5, 3) := by decide +kernel
theorem dX1_doAct_40 : decode cX1_doAct 40 = .ok (.bipush (-9), 2) := by decide +kernel
theorem dX1_doAct_42 : decode cX1_doAct 42 = .ok (.istore_n 3, 1) := by decide +kernel
theorem dX1_doAct_43 : decode cX1_doAct 43 = .ok (.iload_n 3, 1) := by decide +kernel
theorem dX1_doAct_44 : decode cX1_doAct 44 = .ok (.bipush 9, 2) := by decide +kernel
theorem dX1_doAct_46 : decode cX1_doAct 46 = .ok (.invokestatic 41, 3) := by decide +kernel
theorem dX1_doAct_49 : decode cX1_doAct 49 = .ok (.ifCond .ne 5, 3) := by decide +kernel
theorem dX1_doAct_52 : decode cX1_doAct 52 = .ok (.iconst 0, 1) := by decide +kernel
theorem dX1_doAct_53 : decode cX1_doAct 53 = .ok (.ireturn, 1) := by decide +kernel
theorem dX1_doAct_54 : decode cX1_doAct 54 = .ok (.aload_n 0, 1) := by decide +kernel
theorem dX1_doAct_55 : decode cX1_doAct 55 = .ok (.getfield 9, 3) := by decide +kernel
theorem dX1_doAct_58 : decode cX1_doAct 58 = .ok (.iload_n 2, 1) := by decide +kernel
theorem dX1_doAct_59 : decode cX1_doAct 59 = .ok (.iload_n 3, 1) := by decide +kernel
theorem dX1_doAct_60 : decode cX1_doAct 60 = .ok (.iastore, 1) := by decide +kernel
theorem dX1_doAct_61 : decode cX1_doAct 61 = .ok (.iconst 1, 1) := by decide +kernel
theorem dX1_doAct_62 : decode cX1_doAct 62 = .ok (.ireturn, 1) := by decide +kernel
theorem dX1_becomeLike_0 : decode cX1_becomeLike 0 = .ok (.aload_n 0, 1) := by decide +kernel
theorem dX1_becomeLike_1 : decode cX1_becomeLike 1 = .ok (.aload_n 1, 1) := by decide +kernel
theorem dX1_becomeLike_2 : decode cX1_becomeLike 2 = .ok (.getfield 15, 3) := by decide +kernel
theorem dX1_becomeLike_5 : decode cX1_becomeLike 5 = .ok (.putfield 15, 3) := by decide +kernel
theorem dX1_becomeLike_8 : decode cX1_becomeLike 8 = .ok (.aload_n 0, 1) := by decide +kernel
theorem dX1_becomeLike_9 : decode cX1_becomeLike 9 = .ok (.aload_n 1, 1) := by decide +kernel
theorem dX1_becomeLike_10 : decode cX1_becomeLike 10 = .ok (.getfield 26, 3) := by decide +kernel
theorem dX1_becomeLike_13 : decode cX1_becomeLike 13 = .ok (.putfield 26, 3) := by decide +kernel
theorem dX1_becomeLike_16 : decode cX1_becomeLike 16 = .ok (.aload_n 0, 1) := by decide +kernel
theorem dX1_becomeLike_17 : decode cX1_becomeLike 17 = .ok (.aload_n 1, 1) := by decide +kernel
theorem dX1_becomeLike_18 : decode cX1_becomeLike 18 = .ok (.getfield 19, 3) := by decide +kernel
theorem dX1_becomeLike_21 : decode cX1_becomeLike 21 = .ok (.putfield 19, 3) := by decide +kernel
theorem dX1_becomeLike_24 : decode cX1_becomeLike 24 = .ok (.aload_n 0, 1) := by decide +kernel
theorem dX1_becomeLike_25 : decode cX1_becomeLike 25 = .ok (.aload_n 1, 1) := by decide +kernel
theorem dX1_becomeLike_26 : decode cX1_becomeLike 26 = .ok (.getfield 45, 3) := by decide +kernel
theorem dX1_becomeLike_29 : decode cX1_becomeLike 29 = .ok (.putfield 45, 3) := by decide +kernel
theorem dX1_becomeLike_32 : decode cX1_becomeLike 32 = .ok (.aload_n 1, 1) := by decide +kernel
theorem dX1_becomeLike_33 : decode cX1_becomeLike 33 = .ok (.getfield 9, 3) := by decide +kernel
theorem dX1_becomeLike_36 : decode cX1_becomeLike 36 = .ok (.iconst 0, 1) := by decide +kernel
theorem dX1_becomeLike_37 : decode cX1_becomeLike 37 = .ok (.aload_n 0, 1) := by decide +kernel
theorem dX1_becomeLike_38 : decode cX1_becomeLike 38 = .ok (.getfield 9, 3) := by decide +kernel
theorem dX1_becomeLike_41 : decode cX1_becomeLike 41 = .ok (.iconst 0, 1) := by decide +kernel
theorem dX1_becomeLike_42 : decode cX1_becomeLike 42 = .ok (.iconst 4, 1) := by decide +kernel
theorem dX1_becomeLike_43 : decode cX1_becomeLike 43 = .ok (.invokestatic 48, 3) := by decide +kernel
theorem dX1_becomeLike_46 : decode cX1_becomeLike 46 = .ok (.return_, 1) := by decide +kernel
theorem dX2_init_0 : decode cX2_init 0 = .ok (.aload_n 0, 1) := by decide +kernel
theorem dX2_init_1 : decode cX2_init 1 = .ok (.invokespecial 3, 3) := by decide +kernel
theorem dX2_init_4 : decode cX2_init 4 = .ok (.aload_n 0, 1) := by decide +kernel
theorem dX2_init_5 : decode cX2_init 5 = .ok (.iconst 4, 1) := by decide +kernel
theorem dX2_init_6 : decode cX2_init 6 = .ok (.newarray .int, 2) := by decide +kernel
theorem dX2_init_8 : decode cX2_init 8 = .ok (.putfield 9, 3) := by decide +kernel
theorem dX2_init_11 : decode cX2_init 11 = .ok (.aload_n 0, 1) := by decide +kernel
theorem dX2_init_12 : decode cX2_init 12 = .ok (.iconst 4, 1) := by decide +kernel
theorem dX2_init_13 : decode cX2_init 13 = .ok (.newarray .int, 2) := by decide +kernel
theorem dX2_init_15 : decode cX2_init 15 = .ok (.putfield 15, 3) := by decide +kernel
theorem dX2_init_18 : decode cX2_init 18 = .ok (.aload_n 0, 1) := by decide +kernel
theorem dX2_init_19 : decode cX2_init 19 = .ok (.iconst 4, 1) := by decide +kernel
theorem dX2_init_20 : decode cX2_init 20 = .ok (.newarray .int, 2) := by decide +kernel
theorem dX2_init_22 : decode cX2_init 22 = .ok (.putfield 18, 3) := by decide +kernel
theorem dX2_init_25 : decode cX2_init 25 = .ok (.return_, 1) := by decide +kernel
theorem dX2_choose_0 : decode cX2_choose 0 = .ok (.aload_n 0, 1) := by decide +kernel
theorem dX2_choose_1 : decode cX2_choose 1 = .ok (.ldc 23, 2) := by decide +kernel
theorem dX2_choose_3 : decode cX2_choose 3 = .ok (.putfield 24, 3) := by decide +kernel
theorem dX2_choose_6 : decode cX2_choose 6 = .ok (.aload_n 0, 1) := by decide +kernel
theorem dX2_choose_7 : decode cX2_choose 7 = .ok (.iconst 0, 1) := by decide +kernel
theorem dX2_choose_8 : decode cX2_choose 8 = .ok (.putfield 28, 3) := by decide +kernel
theorem dX2_choose_11 : decode cX2_choose 11 = .ok (.iconst 0, 1) := by decide +kernel
theorem dX2_choose_12 : decode cX2_choose 12 = .ok (.istore 4, 2) := by decide +kernel
theorem dX2_choose_14 : decode cX2_choose 14 = .ok (.iload 4, 2) := by decide +kernel
theorem dX2_choose_16 : decode cX2_choose 16 = .ok (.iload_n 1, 1) := by decide +kernel
theorem dX2_choose_17 : decode cX2_choose 17 = .ok (.bipush 9, 2) := by decide +kernel
theorem dX2_choose_19 : decode cX2_choose 19 = .ok (.invokestatic 31, 3) := by decide +kernel
theorem dX2_choose_22 : decode cX2_choose 22 = .ok (.if_icmp .gt 61, 3) := by decide +kernel
theorem dX2_choose_25 : decode cX2_choose 25 = .ok (.aload_n 0, 1) := by decide +kernel
theorem dX2_choose_26 : decode cX2_choose 26 = .ok (.getfield 15, 3) := by decide +kernel
theorem dX2_choose_29 : decode cX2_choose 29 = .ok (.iconst 0, 1) := by decide +kernel
theorem dX2_choose_30 : decode cX2_choose 30 = .ok (.iload 4, 2) := by decide +kernel
theorem dX2_choose_32 : decode cX2_choose 32 = .ok (.iastore, 1) := by decide +kernel
theorem dX2_choose_33 : decode cX2_choose 33 = .ok (.iconst 0, 1) := by decide +kernel
theorem dX2_choose_34 : decode cX2_choose 34 = .ok (.istore 5, 2) := by decide +kernel
theorem dX2_choose_36 : decode cX2_choose 36 = .ok (.iload 5, 2) := by decide +kernel
theorem dX2_choose_38 : decode cX2_choose 38 = .ok (.iload_n 1, 1) := by decide +kernel
theorem dX2_choose_39 : decode cX2_choose 39 = .ok (.iload 4, 2) := by decide +kernel
theorem dX2_choose_41 : decode cX2_choose 41 = .ok (.isub, 1) := by decide +kernel
theorem dX2_choose_42 : decode cX2_choose 42 = .ok (.bipush 9, 2) := by decide +kernel
theorem dX2_choose_44 : decode cX2_choose 44 = .ok (.invokestatic 31, 3) := by decide +kernel
theorem dX2_choose_47 : decode cX2_choose 47 = .ok (.if_icmp .gt 30, 3) := by decide +kernel
theorem dX2_choose_50 : decode cX2_choose 50 = .ok (.aload_n 0, 1) := by decide +kernel
theorem dX2_choose_51 : decode cX2_choose 51 = .ok (.getfield 15, 3) := by decide +kernel
theorem dX2_choose_54 : decode cX2_choose 54 = .ok (.iconst 1, 1) := by decide +kernel
theorem dX2_choose_55 : decode cX2_choose 55 = .ok (.iload 5, 2) := by decide +kernel
theorem dX2_choose_57 : decode cX2_choose 57 = .ok (.iastore, 1) := by decide +kernel
theorem dX2_choose_58 : decode cX2_choose 58 = .ok (.aload_n 0, 1) := by decide +kernel
theorem dX2_choose_59 : decode cX2_choose 59 = .ok (.iload_n 1, 1) := by decide +kernel
theorem dX2_choose_60 : decode cX2_choose 60 = .ok (.iload 4, 2) := by decide +kernel
theorem dX2_choose_62 : decode cX2_choose 62 = .ok (.isub, 1) := by decide +kernel
theorem dX2_choose_63 : decode cX2_choose 63 = .ok (.iload 5, 2) := by decide +kernel
theorem dX2_choose_65 : decode cX2_choose 65 = .ok (.isub, 1) := by decide +kernel
theorem dX2_choose_66 : decode cX2_choose 66 = .ok (.iload_n 2, 1) := by decide +kernel
theorem dX2_choose_67 : decode cX2_choose 67 = .ok (.iload_n 3, 1) := by decide +kernel
theorem dX2_choose_68 : decode cX2_choose 68 = .ok (.invokevirtual 37, 3) := by decide +kernel
theorem dX2_choose_71 : decode cX2_choose 71 = .ok (.iinc 5 1, 3) := by decide +kernel
theorem dX2_choose_74 : decode cX2_choose 74 = .ok (.goto (-38), 3) := by decide +kernel
theorem dX2_choose_77 : decode cX2_choose 77 = .ok (.iinc 4 1, 3) := by decide +kernel
theorem dX2_choose_80 : decode cX2_choose 80 = .ok (.goto (-66), 3) := by decide +kernel
theorem dX2_choose_83 : decode cX2_choose 83 = .ok (.return_, 1) := by decide +kernel
theorem dX2_chooseRest_0 : decode cX2_chooseRest 0 = .ok (.iconst 0, 1) := by decide +kernel
theorem dX2_chooseRest_1 : decode cX2_chooseRest 1 = .ok (.istore 4, 2) := by decide +kernel
theorem dX2_chooseRest_3 : decode cX2_chooseRest 3 = .ok (.iload 4, 2) := by decide +kernel
theorem dX2_chooseRest_5 : decode cX2_chooseRest 5 = .ok (.iload_n 1, 1) := by decide +kernel
theorem dX2_chooseRest_6 : decode cX2_chooseRest 6 = .ok (.bipush 9, 2) := by decide +kernel
theorem dX2_chooseRest_8 : decode cX2_chooseRest 8 = .ok (.invokestatic 31, 3) := by decide +kernel
theorem dX2_chooseRest_11 : decode cX2_chooseRest 11 = .ok (.if_icmp .gt 44, 3) := by decide +kernel
theorem dX2_chooseRest_14 : decode cX2_chooseRest 14 = .ok (.aload_n 0, 1) := by decide +kernel
theorem dX2_chooseRest_15 : decode cX2_chooseRest 15 = .ok (.getfield 15, 3) := by decide +kernel
theorem dX2_chooseRest_18 : decode cX2_chooseRest 18 = .ok (.iconst 2, 1) := by decide +kernel
theorem dX2_chooseRest_19 : decode cX2_chooseRest 19 = .ok (.iload 4, 2) := by decide +kernel
theorem dX2_chooseRest_21 : decode cX2_chooseRest 21 = .ok (.iastore, 1) := by decide +kernel
theorem dX2_chooseRest_22 : decode cX2_chooseRest 22 = .ok (.aload_n 0, 1) := by decide +kernel
theorem dX2_chooseRest_23 : decode cX2_chooseRest 23 = .ok (.getfield 15, 3) := by decide +kernel
theorem dX2_chooseRest_26 : decode cX2_chooseRest 26 = .ok (.iconst 3, 1) := by decide +kernel
theorem dX2_chooseRest_27 : decode cX2_chooseRest 27 = .ok (.iload_n 1, 1) := by decide +kernel
theorem dX2_chooseRest_28 : decode cX2_chooseRest 28 = .ok (.iload 4, 2) := by decide +kernel
theorem dX2_chooseRest_30 : decode cX2_chooseRest 30 = .ok (.isub, 1) := by decide +kernel
theorem dX2_chooseRest_31 : decode cX2_chooseRest 31 = .ok (.iastore, 1) := by decide +kernel
theorem dX2_chooseRest_32 : decode cX2_chooseRest 32 = .ok (.aload_n 0, 1) := by decide +kernel
theorem dX2_chooseRest_33 : decode cX2_chooseRest 33 = .ok (.getfield 15, 3) := by decide +kernel
theorem dX2_chooseRest_36 : decode cX2_chooseRest 36 = .ok (.iconst 3, 1) := by decide +kernel
theorem dX2_chooseRest_37 : decode cX2_chooseRest 37 = .ok (.iaload, 1) := by decide +kernel
theorem dX2_chooseRest_38 : decode cX2_chooseRest 38 = .ok (.bipush 9, 2) := by decide +kernel
theorem dX2_chooseRest_40 : decode cX2_chooseRest 40 = .ok (.if_icmp .gt 9, 3) := by decide +kernel
theorem dX2_chooseRest_43 : decode cX2_chooseRest 43 = .ok (.aload_n 0, 1) := by decide +kernel
theorem dX2_chooseRest_44 : decode cX2_chooseRest 44 = .ok (.iload_n 2, 1) := by decide +kernel
theorem dX2_chooseRest_45 : decode cX2_chooseRest 45 = .ok (.iload_n 3, 1) := by decide +kernel
theorem dX2_chooseRest_46 : decode cX2_chooseRest 46 = .ok (.invokevirtual 41, 3) := by decide +kernel
theorem dX2_chooseRest_49 : decode cX2_chooseRest 49 = .ok (.iinc 4 1, 3) := by decide +kernel
theorem dX2_chooseRest_52 : decode cX2_chooseRest 52 = .ok (.goto (-49), 3) := by decide +kernel
theorem dX2_chooseRest_55 : decode cX2_chooseRest 55 = .ok (.return_, 1) := by decide +kernel
theorem dX2_weigh_0 : decode cX2_weigh 0 = .ok (.aload_n 0, 1) := by decide +kernel
theorem dX2_weigh_1 : decode cX2_weigh 1 = .ok (.getfield 15, 3) := by decide +kernel
theorem dX2_weigh_4 : decode cX2_weigh 4 = .ok (.iload_n 1, 1) := by decide +kernel
theorem dX2_weigh_5 : decode cX2_weigh 5 = .ok (.iload_n 2, 1) := by decide +kernel
theorem dX2_weigh_6 : decode cX2_weigh 6 = .ok (.aload_n 0, 1) := by decide +kernel
theorem dX2_weigh_7 : decode cX2_weigh 7 = .ok (.getfield 18, 3) := by decide +kernel
theorem dX2_weigh_10 : decode cX2_weigh 10 = .ok (.invokestatic 45, 3) := by decide +kernel
theorem dX2_weigh_13 : decode cX2_weigh 13 = .ok (.aload_n 0, 1) := by decide +kernel
theorem dX2_weigh_14 : decode cX2_weigh 14 = .ok (.getfield 18, 3) := by decide +kernel
theorem dX2_weigh_17 : decode cX2_weigh 17 = .ok (.invokestatic 49, 3) := by decide +kernel
theorem dX2_weigh_20 : decode cX2_weigh 20 = .ok (.istore_n 3, 1) := by decide +kernel
theorem dX2_weigh_21 : decode cX2_weigh 21 = .ok (.aload_n 0, 1) := by decide +kernel
theorem dX2_weigh_22 : decode cX2_weigh 22 = .ok (.getfield 15, 3) := by decide +kernel
theorem dX2_weigh_25 : decode cX2_weigh 25 = .ok (.invokestatic 49, 3) := by decide +kernel
theorem dX2_weigh_28 : decode cX2_weigh 28 = .ok (.iload_n 3, 1) := by decide +kernel
theorem dX2_weigh_29 : decode cX2_weigh 29 = .ok (.isub, 1) := by decide +kernel
theorem dX2_weigh_30 : decode cX2_weigh 30 = .ok (.istore 4, 2) := by decide +kernel
theorem dX2_weigh_32 : decode cX2_weigh 32 = .ok (.iload_n 3, 1) := by decide +kernel
theorem dX2_weigh_33 : decode cX2_weigh 33 = .ok (.aload_n 0, 1) := by decide +kernel
theorem dX2_weigh_34 : decode cX2_weigh 34 = .ok (.getfield 24, 3) := by decide +kernel
theorem dX2_weigh_37 : decode cX2_weigh 37 = .ok (.if_icmp .lt 20, 3) := by decide +kernel
theorem dX2_weigh_40 : decode cX2_weigh 40 = .ok (.iload_n 3, 1) := by decide +kernel
theorem dX2_weigh_41 : decode cX2_weigh 41 = .ok (.aload_n 0, 1) := by decide +kernel
theorem dX2_weigh_42 : decode cX2_weigh 42 = .ok (.getfield 24, 3) := by decide +kernel
theorem dX2_weigh_45 : decode cX2_weigh 45 = .ok (.if_icmp .ne 37, 3) := by decide +kernel
theorem dX2_weigh_48 : decode cX2_weigh 48 = .ok (.iload 4, 2) := by decide +kernel
theorem dX2_weigh_50 : decode cX2_weigh 50 = .ok (.aload_n 0, 1) := by decide +kernel
theorem dX2_weigh_51 : decode cX2_weigh 51 = .ok (.getfield 28, 3) := by decide +kernel
theorem dX2_weigh_54 : decode cX2_weigh 54 = .ok (.if_icmp .le 28, 3) := by decide +kernel
theorem dX2_weigh_57 : decode cX2_weigh 57 = .ok (.aload_n 0, 1) := by decide +kernel
theorem dX2_weigh_58 : decode cX2_weigh 58 = .ok (.iload_n 3, 1) := by decide +kernel
theorem dX2_weigh_59 : decode cX2_weigh 59 = .ok (.putfield 24, 3) := by decide +kernel
theorem dX2_weigh_62 : decode cX2_weigh 62 = .ok (.aload_n 0, 1) := by decide +kernel
theorem dX2_weigh_63 : decode cX2_weigh 63 = .ok (.iload 4, 2) := by decide +kernel
theorem dX2_weigh_65 : decode cX2_weigh 65 = .ok (.putfield 28, 3) := by decide +kernel
theorem dX2_weigh_68 : decode cX2_weigh 68 = .ok (.aload_n 0, 1) := by decide +kernel
theorem dX2_weigh_69 : decode cX2_weigh 69 = .ok (.getfield 15, 3) := by decide +kernel
theorem dX2_weigh_72 : decode cX2_weigh 72 = .ok (.iconst 0, 1) := by decide +kernel
theorem dX2_weigh_73 : decode cX2_weigh 73 = .ok (.aload_n 0, 1) := by decide +kernel
theorem dX2_weigh_74 : decode cX2_weigh 74 = .ok (.getfield 9, 3) := by decide +kernel
theorem dX2_weigh_77 : decode cX2_weigh 77 = .ok (.iconst 0, 1) := by decide +kernel
theorem dX2_weigh_78 : decode cX2_weigh 78 = .ok (.iconst 4, 1) := by decide +kernel
theorem dX2_weigh_79 : decode cX2_weigh 79 = .ok (.invokestatic 53, 3) := by decide +kernel
theorem dX2_weigh_82 : decode cX2_weigh 82 = .ok (.return_, 1) := by decide +kernel
theorem dX3_init_0 : decode cX3_init 0 = .ok (.aload_n 0, 1) := by decide +kernel
theorem dX3_init_1 : decode cX3_init 1 = .ok (.invokespecial 3, 3) := by decide +kernel
theorem dX3_init_4 : decode cX3_init 4 = .ok (.return_, 1) := by decide +kernel
theorem dX3_begin_0 : decode cX3_begin 0 = .ok (.aload_n 0, 1) := by decide +kernel
theorem dX3_begin_1 : decode cX3_begin 1 = .ok (.iconst 0, 1) := by decide +kernel
theorem dX3_begin_2 : decode cX3_begin 2 = .ok (.putfield 9, 3) := by decide +kernel
theorem dX3_begin_5 : decode cX3_begin 5 = .ok (.aload_n 0, 1) := by decide +kernel
theorem dX3_begin_6 : decode cX3_begin 6 = .ok (.iconst 0, 1) := by decide +kernel
theorem dX3_begin_7 : decode cX3_begin 7 = .ok (.putfield 15, 3) := by decide +kernel
theorem dX3_begin_10 : decode cX3_begin 10 = .ok (.aload_n 0, 1) := by decide +kernel
theorem dX3_begin_11 : decode cX3_begin 11 = .ok (.bipush (-9), 2) := by decide +kernel
theorem dX3_begin_13 : decode cX3_begin 13 = .ok (.putfield 18, 3) := by decide +kernel
theorem dX3_begin_16 : decode cX3_begin 16 = .ok (.return_, 1) := by decide +kernel
theorem dX3_count_0 : decode cX3_count 0 = .ok (.aload_n 0, 1) := by decide +kernel
theorem dX3_count_1 : decode cX3_count 1 = .ok (.dup, 1) := by decide +kernel
theorem dX3_count_2 : decode cX3_count 2 = .ok (.getfield 9, 3) := by decide +kernel
theorem dX3_count_5 : decode cX3_count 5 = .ok (.iconst 1, 1) := by decide +kernel
theorem dX3_count_6 : decode cX3_count 6 = .ok (.iadd, 1) := by decide +kernel
theorem dX3_count_7 : decode cX3_count 7 = .ok (.putfield 9, 3) := by decide +kernel
theorem dX3_count_10 : decode cX3_count 10 = .ok (.aload_n 0, 1) := by decide +kernel
theorem dX3_count_11 : decode cX3_count 11 = .ok (.dup, 1) := by decide +kernel
theorem dX3_count_12 : decode cX3_count 12 = .ok (.getfield 15, 3) := by decide +kernel
theorem dX3_count_15 : decode cX3_count 15 = .ok (.iload_n 2, 1) := by decide +kernel
theorem dX3_count_16 : decode cX3_count 16 = .ok (.invokestatic 21, 3) := by decide +kernel
theorem dX3_count_19 : decode cX3_count 19 = .ok (.iadd, 1) := by decide +kernel
theorem dX3_count_20 : decode cX3_count 20 = .ok (.putfield 15, 3) := by decide +kernel
theorem dX3_count_23 : decode cX3_count 23 = .ok (.iload_n 3, 1) := by decide +kernel
theorem dX3_count_24 : decode cX3_count 24 = .ok (.ifCond .eq 17, 3) := by decide +kernel
theorem dX3_count_27 : decode cX3_count 27 = .ok (.aload_n 0, 1) := by decide +kernel
theorem dX3_count_28 : decode cX3_count 28 = .ok (.getfield 18, 3) := by decide +kernel
theorem dX3_count_31 : decode cX3_count 31 = .ok (.bipush (-9), 2) := by decide +kernel
theorem dX3_count_33 : decode cX3_count 33 = .ok (.if_icmp .ne 8, 3) := by decide +kernel
theorem dX3_count_36 : decode cX3_count 36 = .ok (.aload_n 0, 1) := by decide +kernel
theorem dX3_count_37 : decode cX3_count 37 = .ok (.iload_n 1, 1) := by decide +kernel
theorem dX3_count_38 : decode cX3_count 38 = .ok (.putfield 18, 3) := by decide +kernel
theorem dX3_count_41 : decode cX3_count 41 = .ok (.return_, 1) := by decide +kernel
theorem dX4_init_0 : decode cX4_init 0 = .ok (.aload_n 0, 1) := by decide +kernel
theorem dX4_init_1 : decode cX4_init 1 = .ok (.invokespecial 3, 3) := by decide +kernel
theorem dX4_init_4 : decode cX4_init 4 = .ok (.aload_n 0, 1) := by decide +kernel
theorem dX4_init_5 : decode cX4_init 5 = .ok (.bipush 6, 2) := by decide +kernel
theorem dX4_init_7 : decode cX4_init 7 = .ok (.newarray .int, 2) := by decide +kernel
theorem dX4_init_9 : decode cX4_init 9 = .ok (.putfield 11, 3) := by decide +kernel
theorem dX4_init_12 : decode cX4_init 12 = .ok (.aload_n 0, 1) := by decide +kernel
theorem dX4_init_13 : decode cX4_init 13 = .ok (.iconst 5, 1) := by decide +kernel
theorem dX4_init_14 : decode cX4_init 14 = .ok (.anewarray 15, 3) := by decide +kernel
theorem dX4_init_17 : decode cX4_init 17 = .ok (.putfield 17, 3) := by decide +kernel
theorem dX4_init_20 : decode cX4_init 20 = .ok (.aload_n 0, 1) := by decide +kernel
theorem dX4_init_21 : decode cX4_init 21 = .ok (.iconst 5, 1) := by decide +kernel
theorem dX4_init_22 : decode cX4_init 22 = .ok (.anewarray 15, 3) := by decide +kernel
theorem dX4_init_25 : decode cX4_init 25 = .ok (.putfield 21, 3) := by decide +kernel
theorem dX4_init_28 : decode cX4_init 28 = .ok (.aload_n 0, 1) := by decide +kernel
theorem dX4_init_29 : decode cX4_init 29 = .ok (.new 24, 3) := by decide +kernel
theorem dX4_init_32 : decode cX4_init 32 = .ok (.dup, 1) := by decide +kernel
theorem dX4_init_33 : decode cX4_init 33 = .ok (.invokespecial 26, 3) := by decide +kernel
theorem dX4_init_36 : decode cX4_init 36 = .ok (.putfield 27, 3) := by decide +kernel
theorem dX4_init_39 : decode cX4_init 39 = .ok (.aload_n 0, 1) := by decide +kernel
theorem dX4_init_40 : decode cX4_init 40 = .ok (.new 31, 3) := by decide +kernel
theorem dX4_init_43 : decode cX4_init 43 = .ok (.dup, 1) := by decide +kernel
theorem dX4_init_44 : decode cX4_init 44 = .ok (.invokespecial 33, 3) := by decide +kernel
theorem dX4_init_47 : decode cX4_init 47 = .ok (.putfield 34, 3) := by decide +kernel
theorem dX4_init_50 : decode cX4_init 50 = .ok (.aload_n 0, 1) := by decide +kernel
theorem dX4_init_51 : decode cX4_init 51 = .ok (.iconst 4, 1) := by decide +kernel
theorem dX4_init_52 : decode cX4_init 52 = .ok (.newarray .int, 2) := by decide +kernel
theorem dX4_init_54 : decode cX4_init 54 = .ok (.putfield 38, 3) := by decide +kernel
theorem dX4_init_57 : decode cX4_init 57 = .ok (.aload_n 0, 1) := by decide +kernel
theorem dX4_init_58 : decode cX4_init 58 = .ok (.bipush 8, 2) := by decide +kernel
theorem dX4_init_60 : decode cX4_init 60 = .ok (.newarray .int, 2) := by decide +kernel
theorem dX4_init_62 : decode cX4_init 62 = .ok (.putfield 41, 3) := by decide +kernel
theorem dX4_init_65 : decode cX4_init 65 = .ok (.aload_n 0, 1) := by decide +kernel
theorem dX4_init_66 : decode cX4_init 66 = .ok (.bipush 8, 2) := by decide +kernel
theorem dX4_init_68 : decode cX4_init 68 = .ok (.newarray .int, 2) := by decide +kernel
theorem dX4_init_70 : decode cX4_init 70 = .ok (.putfield 44, 3) := by decide +kernel
theorem dX4_init_73 : decode cX4_init 73 = .ok (.aload_n 0, 1) := by decide +kernel
theorem dX4_init_74 : decode cX4_init 74 = .ok (.bipush 8, 2) := by decide +kernel
theorem dX4_init_76 : decode cX4_init 76 = .ok (.newarray .int, 2) := by decide +kernel
theorem dX4_init_78 : decode cX4_init 78 = .ok (.putfield 47, 3) := by decide +kernel
theorem dX4_init_81 : decode cX4_init 81 = .ok (.aload_n 0, 1) := by decide +kernel
theorem dX4_init_82 : decode cX4_init 82 = .ok (.iconst 4, 1) := by decide +kernel
theorem dX4_init_83 : decode cX4_init 83 = .ok (.anewarray 50, 3) := by decide +kernel
theorem dX4_init_86 : decode cX4_init 86 = .ok (.putfield 52, 3) := by decide +kernel
theorem dX4_init_89 : decode cX4_init 89 = .ok (.iconst 0, 1) := by decide +kernel
theorem dX4_init_90 : decode cX4_init 90 = .ok (.istore_n 1, 1) := by decide +kernel
theorem dX4_init_91 : decode cX4_init 91 = .ok (.iload_n 1, 1) := by decide +kernel
theorem dX4_init_92 : decode cX4_init 92 = .ok (.iconst 5, 1) := by decide +kernel
theorem dX4_init_93 : decode cX4_init 93 = .ok (.if_icmp .ge 35, 3) := by decide +kernel
theorem dX4_init_96 : decode cX4_init 96 = .ok (.aload_n 0, 1) := by decide +kernel
theorem dX4_init_97 : decode cX4_init 97 = .ok (.getfield 17, 3) := by decide +kernel
theorem dX4_init_100 : decode cX4_init 100 = .ok (.iload_n 1, 1) := by decide +kernel
theorem dX4_init_101 : decode cX4_init 101 = .ok (.new 15, 3) := by decide +kernel
theorem dX4_init_104 : decode cX4_init 104 = .ok (.dup, 1) := by decide +kernel
theorem dX4_init_105 : decode cX4_init 105 = .ok (.invokespecial 56, 3) := by decide +kernel
theorem dX4_init_108 : decode cX4_init 108 = .ok (.aastore, 1) := by decide +kernel
theorem dX4_init_109 : decode cX4_init 109 = .ok (.aload_n 0, 1) := by decide +kernel
theorem dX4_init_110 : decode cX4_init 110 = .ok (.getfield 21, 3) := by decide +kernel
theorem dX4_init_113 : decode cX4_init 113 = .ok (.iload_n 1, 1) := by decide +kernel
theorem dX4_init_114 : decode cX4_init 114 = .ok (.new 15, 3) := by decide +kernel
theorem dX4_init_117 : decode cX4_init 117 = .ok (.dup, 1) := by decide +kernel
theorem dX4_init_118 : decode cX4_init 118 = .ok (.invokespecial 56, 3) := by decide +kernel
theorem dX4_init_121 : decode cX4_init 121 = .ok (.aastore, 1) := by decide +kernel
theorem dX4_init_122 : decode cX4_init 122 = .ok (.iinc 1 1, 3) := by decide +kernel
theorem dX4_init_125 : decode cX4_init 125 = .ok (.goto (-34), 3) := by decide +kernel
theorem dX4_init_128 : decode cX4_init 128 = .ok (.iconst 0, 1) := by decide +kernel
theorem dX4_init_129 : decode cX4_init 129 = .ok (.istore_n 1, 1) := by decide +kernel
theorem dX4_init_130 : decode cX4_init 130 = .ok (.iload_n 1, 1) := by decide +kernel
theorem dX4_init_131 : decode cX4_init 131 = .ok (.iconst 4, 1) := by decide +kernel
theorem dX4_init_132 : decode cX4_init 132 = .ok (.if_icmp .ge 22, 3) := by decide +kernel
theorem dX4_init_135 : decode cX4_init 135 = .ok (.aload_n 0, 1) := by decide +kernel
theorem dX4_init_136 : decode cX4_init 136 = .ok (.getfield 52, 3) := by decide +kernel
theorem dX4_init_139 : decode cX4_init 139 = .ok (.iload_n 1, 1) := by decide +kernel
theorem dX4_init_140 : decode cX4_init 140 = .ok (.new 50, 3) := by decide +kernel
theorem dX4_init_143 : decode cX4_init 143 = .ok (.dup, 1) := by decide +kernel
theorem dX4_init_144 : decode cX4_init 144 = .ok (.invokespecial 57, 3) := by decide +kernel
theorem dX4_init_147 : decode cX4_init 147 = .ok (.aastore, 1) := by decide +kernel
theorem dX4_init_148 : decode cX4_init 148 = .ok (.iinc 1 1, 3) := by decide +kernel
theorem dX4_init_151 : decode cX4_init 151 = .ok (.goto (-21), 3) := by decide +kernel
theorem dX4_init_154 : decode cX4_init 154 = .ok (.return_, 1) := by decide +kernel
theorem dX4_sea_0 : decode cX4_sea 0 = .ok (.aload_n 0, 1) := by decide +kernel
theorem dX4_sea_1 : decode cX4_sea 1 = .ok (.iconst 0, 1) := by decide +kernel
theorem dX4_sea_2 : decode cX4_sea 2 = .ok (.putfield 58, 3) := by decide +kernel
theorem dX4_sea_5 : decode cX4_sea 5 = .ok (.iload_n 1, 1) := by decide +kernel
theorem dX4_sea_6 : decode cX4_sea 6 = .ok (.invokestatic 62, 3) := by decide +kernel
theorem dX4_sea_9 : decode cX4_sea 9 = .ok (.ifCond .ne 5, 3) := by decide +kernel
theorem dX4_sea_12 : decode cX4_sea 12 = .ok (.iconst (-1), 1) := by decide +kernel
theorem dX4_sea_13 : decode cX4_sea 13 = .ok (.ireturn, 1) := by decide +kernel
theorem dX4_sea_14 : decode cX4_sea 14 = .ok (.iload_n 2, 1) := by decide +kernel
theorem dX4_sea_15 : decode cX4_sea 15 = .ok (.iconst 3, 1) := by decide +kernel
theorem dX4_sea_16 : decode cX4_sea 16 = .ok (.invokestatic 66, 3) := by decide +kernel
theorem dX4_sea_19 : decode cX4_sea 19 = .ok (.ifCond .ne 6, 3) := by decide +kernel
theorem dX4_sea_22 : decode cX4_sea 22 = .ok (.bipush (-2), 2) := by decide +kernel
theorem dX4_sea_24 : decode cX4_sea 24 = .ok (.ireturn, 1) := by decide +kernel
theorem dX4_sea_25 : decode cX4_sea 25 = .ok (.aload_n 0, 1) := by decide +kernel
theorem dX4_sea_26 : decode cX4_sea 26 = .ok (.getfield 52, 3) := by decide +kernel
theorem dX4_sea_29 : decode cX4_sea 29 = .ok (.iload_n 1, 1) := by decide +kernel
theorem dX4_sea_30 : decode cX4_sea 30 = .ok (.aaload, 1) := by decide +kernel
theorem dX4_sea_31 : decode cX4_sea 31 = .ok (.astore 5, 2) := by decide +kernel
theorem dX4_sea_33 : decode cX4_sea 33 = .ok (.aload 5, 2) := by decide +kernel
theorem dX4_sea_35 : decode cX4_sea 35 = .ok (.iload_n 2, 1) := by decide +kernel
theorem dX4_sea_36 : decode cX4_sea 36 = .ok (.iload_n 3, 1) := by decide +kernel
theorem dX4_sea_37 : decode cX4_sea 37 = .ok (.iload 4, 2) := by decide +kernel
theorem dX4_sea_39 : decode cX4_sea 39 = .ok (.invokevirtual 70, 3) := by decide +kernel
theorem dX4_sea_42 : decode cX4_sea 42 = .ok (.istore 6, 2) := by decide +kernel
theorem dX4_sea_44 : decode cX4_sea 44 = .ok (.iload 6, 2) := by decide +kernel
theorem dX4_sea_46 : decode cX4_sea 46 = .ok (.ifCond .eq 10, 3) := by decide +kernel
theorem dX4_sea_49 : decode cX4_sea 49 = .ok (.aload_n 0, 1) := by decide +kernel
theorem dX4_sea_50 : decode cX4_sea 50 = .ok (.iload 6, 2) := by decide +kernel
theorem dX4_sea_52 : decode cX4_sea 52 = .ok (.invokevirtual 74, 3) := by decide +kernel
theorem dX4_sea_55 : decode cX4_sea 55 = .ok (.ireturn, 1) := by decide +kernel
theorem dX4_sea_56 : decode cX4_sea 56 = .ok (.aload 5, 2) := by decide +kernel
theorem dX4_sea_58 : decode cX4_sea 58 = .ok (.iload_n 3, 1) := by decide +kernel
theorem dX4_sea_59 : decode cX4_sea 59 = .ok (.iload 4, 2) := by decide +kernel
theorem dX4_sea_61 : decode cX4_sea 61 = .ok (.invokestatic 78, 3) := by decide +kernel
theorem dX4_sea_64 : decode cX4_sea 64 = .ok (.istore 7, 2) := by decide +kernel
theorem dX4_sea_66 : decode cX4_sea 66 = .ok (.iload 7, 2) := by decide +kernel
theorem dX4_sea_68 : decode cX4_sea 68 = .ok (.bipush (-9), 2) := by decide +kernel
theorem dX4_sea_70 : decode cX4_sea 70 = .ok (.if_icmp .eq 9, 3) := by decide +kernel
theorem dX4_sea_73 : decode cX4_sea 73 = .ok (.bipush (-100), 2) := by decide +kernel
theorem dX4_sea_75 : decode cX4_sea 75 = .ok (.iload 7, 2) := by decide +kernel
theorem dX4_sea_77 : decode cX4_sea 77 = .ok (.isub, 1) := by decide +kernel
theorem dX4_sea_78 : decode cX4_sea 78 = .ok (.ireturn, 1) := by decide +kernel
theorem dX4_sea_79 : decode cX4_sea 79 = .ok (.aload_n 0, 1) := by decide +kernel
theorem dX4_sea_80 : decode cX4_sea 80 = .ok (.aload 5, 2) := by decide +kernel
theorem dX4_sea_82 : decode cX4_sea 82 = .ok (.iload_n 3, 1) := by decide +kernel
theorem dX4_sea_83 : decode cX4_sea 83 = .ok (.iload 4, 2) := by decide +kernel
theorem dX4_sea_85 : decode cX4_sea 85 = .ok (.invokevirtual 82, 3) := by decide +kernel
theorem dX4_sea_88 : decode cX4_sea 88 = .ok (.aload_n 0, 1) := by decide +kernel
theorem dX4_sea_89 : decode cX4_sea 89 = .ok (.getfield 86, 3) := by decide +kernel
theorem dX4_sea_92 : decode cX4_sea 92 = .ok (.ireturn, 1) := by decide +kernel
theorem dX4_ofShip_0 : decode cX4_ofShip 0 = .ok (.aload_n 0, 1) := by decide +kernel
theorem dX4_ofShip_1 : decode cX4_ofShip 1 = .ok (.iload_n 1, 1) := by decide +kernel
theorem dX4_ofShip_2 : decode cX4_ofShip 2 = .ok (.invokevirtual 89, 3) := by decide +kernel
theorem dX4_ofShip_5 : decode cX4_ofShip 5 = .ok (.ifCond .ne 5, 3) := by decide +kernel
theorem dX4_ofShip_8 : decode cX4_ofShip 8 = .ok (.iconst (-1), 1) := by decide +kernel
theorem dX4_ofShip_9 : decode cX4_ofShip 9 = .ok (.ireturn, 1) := by decide +kernel
theorem dX4_ofShip_10 : decode cX4_ofShip 10 = .ok (.aload_n 0, 1) := by decide +kernel
theorem dX4_ofShip_11 : decode cX4_ofShip 11 = .ok (.getfield 17, 3) := by decide +kernel
theorem dX4_ofShip_14 : decode cX4_ofShip 14 = .ok (.iload_n 1, 1) := by decide +kernel
theorem dX4_ofShip_15 : decode cX4_ofShip 15 = .ok (.aaload, 1) := by decide +kernel
theorem dX4_ofShip_16 : decode cX4_ofShip 16 = .ok (.astore_n 3, 1) := by decide +kernel
theorem dX4_ofShip_17 : decode cX4_ofShip 17 = .ok (.iload_n 2, 1) := by decide +kernel
theorem dX4_ofShip_18 : decode cX4_ofShip 18 = .ok (.tableswitch 94 0 7 #[46, 51, 56, 61, 66, 71, 84, 89], 46) := by decide +kernel
theorem dX4_ofShip_64 : decode cX4_ofShip 64 = .ok (.aload_n 3, 1) := by decide +kernel
theorem dX4_ofShip_65 : decode cX4_ofShip 65 = .ok (.getfield 92, 3) := by decide +kernel
theorem dX4_ofShip_68 : decode cX4_ofShip 68 = .ok (.ireturn, 1) := by decide +kernel
theorem dX4_ofShip_69 : decode cX4_ofShip 69 = .ok (.aload_n 3, 1) := by decide +kernel
theorem dX4_ofShip_70 : decode cX4_ofShip 70 = .ok (.getfield 95, 3) := by decide +kernel
theorem dX4_ofShip_73 : decode cX4_ofShip 73 = .ok (.ireturn, 1) := by decide +kernel
theorem dX4_ofShip_74 : decode cX4_ofShip 74 = .ok (.aload_n 3, 1) := by decide +kernel
theorem dX4_ofShip_75 : decode cX4_ofShip 75 = .ok (.getfield 98, 3) := by decide +kernel
theorem dX4_ofShip_78 : decode cX4_ofShip 78 = .ok (.ireturn, 1) := by decide +kernel
theorem dX4_ofShip_79 : decode cX4_ofShip 79 = .ok (.aload_n 3, 1) := by decide +kernel
theorem dX4_ofShip_80 : decode cX4_ofShip 80 = .ok (.invokevirtual 101, 3) := by decide +kernel
theorem dX4_ofShip_83 : decode cX4_ofShip 83 = .ok (.ireturn, 1) := by decide +kernel
theorem dX4_ofShip_84 : decode cX4_ofShip 84 = .ok (.aload_n 3, 1) := by decide +kernel
theorem dX4_ofShip_85 : decode cX4_ofShip 85 = .ok (.getfield 105, 3) := by decide +kernel
theorem dX4_ofShip_88 : decode cX4_ofShip 88 = .ok (.ireturn, 1) := by decide +kernel
theorem dX4_ofShip_89 : decode cX4_ofShip 89 = .ok (.aload_n 3, 1) := by decide +kernel
theorem dX4_ofShip_90 : decode cX4_ofShip 90 = .ok (.invokevirtual 108, 3) := by decide +kernel
theorem dX4_ofShip_93 : decode cX4_ofShip 93 = .ok (.ifCond .eq 7, 3) := by decide +kernel
theorem dX4_ofShip_96 : decode cX4_ofShip 96 = .ok (.iconst 1, 1) := by decide +kernel
theorem dX4_ofShip_97 : decode cX4_ofShip 97 = .ok (.goto 4, 3) := by decide +kernel
theorem dX4_ofShip_100 : decode cX4_ofShip 100 = .ok (.iconst 0, 1) := by decide +kernel
theorem dX4_ofShip_101 : decode cX4_ofShip 101 = .ok (.ireturn, 1) := by decide +kernel
theorem dX4_ofShip_102 : decode cX4_ofShip 102 = .ok (.aload_n 3, 1) := by decide +kernel
theorem dX4_ofShip_103 : decode cX4_ofShip 103 = .ok (.invokevirtual 112, 3) := by decide +kernel
theorem dX4_ofShip_106 : decode cX4_ofShip 106 = .ok (.ireturn, 1) := by decide +kernel
theorem dX4_ofShip_107 : decode cX4_ofShip 107 = .ok (.aload_n 3, 1) := by decide +kernel
theorem dX4_ofShip_108 : decode cX4_ofShip 108 = .ok (.invokevirtual 115, 3) := by decide +kernel
theorem dX4_ofShip_111 : decode cX4_ofShip 111 = .ok (.ireturn, 1) := by decide +kernel
theorem dX4_ofShip_112 : decode cX4_ofShip 112 = .ok (.iload_n 2, 1) := by decide +kernel
theorem dX4_ofShip_113 : decode cX4_ofShip 113 = .ok (.bipush 10, 2) := by decide +kernel
theorem dX4_ofShip_115 : decode cX4_ofShip 115 = .ok (.isub, 1) := by decide +kernel
theorem dX4_ofShip_116 : decode cX4_ofShip 116 = .ok (.invokestatic 118, 3) := by decide +kernel
theorem dX4_ofShip_119 : decode cX4_ofShip 119 = .ok (.ifCond .eq 15, 3) := by decide +kernel
theorem dX4_ofShip_122 : decode cX4_ofShip 122 = .ok (.aload_n 3, 1) := by decide +kernel
theorem dX4_ofShip_123 : decode cX4_ofShip 123 = .ok (.getfield 121, 3) := by decide +kernel
theorem dX4_ofShip_126 : decode cX4_ofShip 126 = .ok (.iload_n 2, 1) := by decide +kernel
theorem dX4_ofShip_127 : decode cX4_ofShip 127 = .ok (.bipush 10, 2) := by decide +kernel
theorem dX4_ofShip_129 : decode cX4_ofShip 129 = .ok (.isub, 1) := by decide +kernel
theorem dX4_ofShip_130 : decode cX4_ofShip 130 = .ok (.iaload, 1) := by decide +kernel
theorem dX4_ofShip_131 : decode cX4_ofShip 131 = .ok (.goto 5, 3) := by decide +kernel
theorem dX4_ofShip_134 : decode cX4_ofShip 134 = .ok (.bipush (-2), 2) := by decide +kernel
theorem dX4_ofShip_136 : decode cX4_ofShip 136 = .ok (.ireturn, 1) := by decide +kernel
theorem dX4_rough_0 : decode cX4_rough 0 = .ok (.aload_n 0, 1) := by decide +kernel
theorem dX4_rough_1 : decode cX4_rough 1 = .ok (.iload_n 1, 1) := by decide +kernel
theorem dX4_rough_2 : decode cX4_rough 2 = .ok (.invokevirtual 124, 3) := by decide +kernel
theorem dX4_rough_5 : decode cX4_rough 5 = .ok (.ifCond .eq 12, 3) := by decide +kernel
theorem dX4_rough_8 : decode cX4_rough 8 = .ok (.aload_n 0, 1) := by decide +kernel
theorem dX4_rough_9 : decode cX4_rough 9 = .ok (.getfield 11, 3) := by decide +kernel
theorem dX4_rough_12 : decode cX4_rough 12 = .ok (.iload_n 1, 1) := by decide +kernel
theorem dX4_rough_13 : decode cX4_rough 13 = .ok (.iaload, 1) := by decide +kernel
theorem dX4_rough_14 : decode cX4_rough 14 = .ok (.goto 4, 3) := by decide +kernel
theorem dX4_rough_17 : decode cX4_rough 17 = .ok (.iconst (-1), 1) := by decide +kernel
theorem dX4_rough_18 : decode cX4_rough 18 = .ok (.ireturn, 1) := by decide +kernel
theorem dX4_blow_0 : decode cX4_blow 0 = .ok (.aload_n 0, 1) := by decide +kernel
theorem dX4_blow_1 : decode cX4_blow 1 = .ok (.iload_n 1, 1) := by decide +kernel
theorem dX4_blow_2 : decode cX4_blow 2 = .ok (.invokevirtual 124, 3) := by decide +kernel
theorem dX4_blow_5 : decode cX4_blow 5 = .ok (.ifCond .ne 5, 3) := by decide +kernel
theorem dX4_blow_8 : decode cX4_blow 8 = .ok (.iconst (-1), 1) := by decide +kernel
theorem dX4_blow_9 : decode cX4_blow 9 = .ok (.ireturn, 1) := by decide +kernel
theorem dX4_blow_10 : decode cX4_blow 10 = .ok (.iload_n 2, 1) := by decide +kernel
theorem dX4_blow_11 : decode cX4_blow 11 = .ok (.bipush 9, 2) := by decide +kernel
theorem dX4_blow_13 : decode cX4_blow 13 = .ok (.invokestatic 127, 3) := by decide +kernel
theorem dX4_blow_16 : decode cX4_blow 16 = .ok (.ifCond .ne 6, 3) := by decide +kernel
theorem dX4_blow_19 : decode cX4_blow 19 = .ok (.bipush (-2), 2) := by decide +kernel
theorem dX4_blow_21 : decode cX4_blow 21 = .ok (.ireturn, 1) := by decide +kernel
theorem dX4_blow_22 : decode cX4_blow 22 = .ok (.aload_n 0, 1) := by decide +kernel
theorem dX4_blow_23 : decode cX4_blow 23 = .ok (.getfield 11, 3) := by decide +kernel
theorem dX4_blow_26 : decode cX4_blow 26 = .ok (.iload_n 1, 1) := by decide +kernel
theorem dX4_blow_27 : decode cX4_blow 27 = .ok (.iaload, 1) := by decide +kernel
theorem dX4_blow_28 : decode cX4_blow 28 = .ok (.istore_n 3, 1) := by decide +kernel
theorem dX4_blow_29 : decode cX4_blow 29 = .ok (.aload_n 0, 1) := by decide +kernel
theorem dX4_blow_30 : decode cX4_blow 30 = .ok (.getfield 11, 3) := by decide +kernel
theorem dX4_blow_33 : decode cX4_blow 33 = .ok (.iload_n 1, 1) := by decide +kernel
theorem dX4_blow_34 : decode cX4_blow 34 = .ok (.iload_n 2, 1) := by decide +kernel
theorem dX4_blow_35 : decode cX4_blow 35 = .ok (.iastore, 1) := by decide +kernel
theorem dX4_blow_36 : decode cX4_blow 36 = .ok (.iload_n 3, 1) := by decide +kernel
theorem dX4_blow_37 : decode cX4_blow 37 = .ok (.ireturn, 1) := by decide +kernel
theorem dX4_name_0 : decode cX4_name 0 = .ok (.aload_n 0, 1) := by decide +kernel
theorem dX4_name_1 : decode cX4_name 1 = .ok (.iload_n 1, 1) := by decide +kernel
theorem dX4_name_2 : decode cX4_name 2 = .ok (.invokevirtual 89, 3) := by decide +kernel
theorem dX4_name_5 : decode cX4_name 5 = .ok (.ifCond .ne 5, 3) := by decide +kernel
theorem dX4_name_8 : decode cX4_name 8 = .ok (.iconst (-1), 1) := by decide +kernel
theorem dX4_name_9 : decode cX4_name 9 = .ok (.ireturn, 1) := by decide +kernel
theorem dX4_name_10 : decode cX4_name 10 = .ok (.iload_n 2, 1) := by decide +kernel
theorem dX4_name_11 : decode cX4_name 11 = .ok (.invokestatic 118, 3) := by decide +kernel
theorem dX4_name_14 : decode cX4_name 14 = .ok (.ifCond .ne 6, 3) := by decide +kernel
theorem dX4_name_17 : decode cX4_name 17 = .ok (.bipush (-2), 2) := by decide +kernel
theorem dX4_name_19 : decode cX4_name 19 = .ok (.ireturn, 1) := by decide +kernel
theorem dX4_name_20 : decode cX4_name 20 = .ok (.aload_n 0, 1) := by decide +kernel
theorem dX4_name_21 : decode cX4_name 21 = .ok (.getfield 17, 3) := by decide +kernel
theorem dX4_name_24 : decode cX4_name 24 = .ok (.iload_n 1, 1) := by decide +kernel
theorem dX4_name_25 : decode cX4_name 25 = .ok (.aaload, 1) := by decide +kernel
theorem dX4_name_26 : decode cX4_name 26 = .ok (.getfield 95, 3) := by decide +kernel
theorem dX4_name_29 : decode cX4_name 29 = .ok (.istore_n 3, 1) := by decide +kernel
theorem dX4_name_30 : decode cX4_name 30 = .ok (.aload_n 0, 1) := by decide +kernel
theorem dX4_name_31 : decode cX4_name 31 = .ok (.getfield 17, 3) := by decide +kernel
theorem dX4_name_34 : decode cX4_name 34 = .ok (.iload_n 1, 1) := by decide +kernel
theorem dX4_name_35 : decode cX4_name 35 = .ok (.aaload, 1) := by decide +kernel
theorem dX4_name_36 : decode cX4_name 36 = .ok (.iload_n 2, 1) := by decide +kernel
theorem dX4_name_37 : decode cX4_name 37 = .ok (.putfield 95, 3) := by decide +kernel
theorem dX4_name_40 : decode cX4_name 40 = .ok (.iload_n 3, 1) := by decide +kernel
theorem dX4_name_41 : decode cX4_name 41 = .ok (.ireturn, 1) := by decide +kernel
theorem dX4_days_0 : decode cX4_days 0 = .ok (.iload_n 1, 1) := by decide +kernel
theorem dX4_days_1 : decode cX4_days 1 = .ok (.iconst 1, 1) := by decide +kernel
theorem dX4_days_2 : decode cX4_days 2 = .ok (.if_icmp .lt 9, 3) := by decide +kernel
theorem dX4_days_5 : decode cX4_days 5 = .ok (.iload_n 1, 1) := by decide +kernel
theorem dX4_days_6 : decode cX4_days 6 = .ok (.bipush 30, 2) := by decide +kernel
theorem dX4_days_8 : decode cX4_days 8 = .ok (.if_icmp .le 6, 3) := by decide +kernel
theorem dX4_days_11 : decode cX4_days 11 = .ok (.bipush (-2), 2) := by decide +kernel
theorem dX4_days_13 : decode cX4_days 13 = .ok (.ireturn, 1) := by decide +kernel
theorem dX4_days_14 : decode cX4_days 14 = .ok (.aload_n 0, 1) := by decide +kernel
theorem dX4_days_15 : decode cX4_days 15 = .ok (.invokevirtual 130, 3) := by decide +kernel
theorem dX4_days_18 : decode cX4_days 18 = .ok (.ifCond .ne 6, 3) := by decide +kernel
theorem dX4_days_21 : decode cX4_days 21 = .ok (.bipush (-3), 2) := by decide +kernel
theorem dX4_days_23 : decode cX4_days 23 = .ok (.ireturn, 1) := by decide +kernel
theorem dX4_days_24 : decode cX4_days 24 = .ok (.iconst 0, 1) := by decide +kernel
theorem dX4_days_25 : decode cX4_days 25 = .ok (.istore_n 2, 1) := by decide +kernel
theorem dX4_days_26 : decode cX4_days 26 = .ok (.iconst 0, 1) := by decide +kernel
theorem dX4_days_27 : decode cX4_days 27 = .ok (.istore_n 3, 1) := by decide +kernel
theorem dX4_days_28 : decode cX4_days 28 = .ok (.iload_n 3, 1) := by decide +kernel
theorem dX4_days_29 : decode cX4_days 29 = .ok (.iload_n 1, 1) := by decide +kernel
theorem dX4_days_30 : decode cX4_days 30 = .ok (.if_icmp .ge 46, 3) := by decide +kernel
theorem dX4_days_33 : decode cX4_days 33 = .ok (.iconst 0, 1) := by decide +kernel
theorem dX4_days_34 : decode cX4_days 34 = .ok (.istore 4, 2) := by decide +kernel
theorem dX4_days_36 : decode cX4_days 36 = .ok (.iload 4, 2) := by decide +kernel
theorem dX4_days_38 : decode cX4_days 38 = .ok (.aload_n 0, 1) := by decide +kernel
theorem dX4_days_39 : decode cX4_days 39 = .ok (.getfield 86, 3) := by decide +kernel
theorem dX4_days_42 : decode cX4_days 42 = .ok (.if_icmp .ge 28, 3) := by decide +kernel
theorem dX4_days_45 : decode cX4_days 45 = .ok (.aload_n 0, 1) := by decide +kernel
theorem dX4_days_46 : decode cX4_days 46 = .ok (.aload_n 0, 1) := by decide +kernel
theorem dX4_days_47 : decode cX4_days 47 = .ok (.getfield 17, 3) := by decide +kernel
theorem dX4_days_50 : decode cX4_days 50 = .ok (.iload 4, 2) := by decide +kernel
theorem dX4_days_52 : decode cX4_days 52 = .ok (.aaload, 1) := by decide +kernel
theorem dX4_days_53 : decode cX4_days 53 = .ok (.invokevirtual 133, 3) := by decide +kernel
theorem dX4_days_56 : decode cX4_days 56 = .ok (.bipush (-9), 2) := by decide +kernel
theorem dX4_days_58 : decode cX4_days 58 = .ok (.if_icmp .eq 6, 3) := by decide +kernel
theorem dX4_days_61 : decode cX4_days 61 = .ok (.iinc 2 1, 3) := by decide +kernel
theorem dX4_days_64 : decode cX4_days 64 = .ok (.iinc 4 1, 3) := by decide +kernel
theorem dX4_days_67 : decode cX4_days 67 = .ok (.goto (-31), 3) := by decide +kernel
theorem dX4_days_70 : decode cX4_days 70 = .ok (.iinc 3 1, 3) := by decide +kernel
theorem dX4_days_73 : decode cX4_days 73 = .ok (.goto (-45), 3) := by decide +kernel
theorem dX4_days_76 : decode cX4_days 76 = .ok (.aload_n 0, 1) := by decide +kernel
theorem dX4_days_77 : decode cX4_days 77 = .ok (.dup, 1) := by decide +kernel
theorem dX4_days_78 : decode cX4_days 78 = .ok (.getfield 137, 3) := by decide +kernel
theorem dX4_days_81 : decode cX4_days 81 = .ok (.iload_n 1, 1) := by decide +kernel
theorem dX4_days_82 : decode cX4_days 82 = .ok (.iadd, 1) := by decide +kernel
theorem dX4_days_83 : decode cX4_days 83 = .ok (.putfield 137, 3) := by decide +kernel
theorem dX4_days_86 : decode cX4_days 86 = .ok (.iload_n 2, 1) := by decide +kernel
theorem dX4_days_87 : decode cX4_days 87 = .ok (.ireturn, 1) := by decide +kernel
theorem dX4_load_0 : decode cX4_load 0 = .ok (.aload_n 0, 1) := by decide +kernel
theorem dX4_load_1 : decode cX4_load 1 = .ok (.iload_n 1, 1) := by decide +kernel
theorem dX4_load_2 : decode cX4_load 2 = .ok (.invokevirtual 89, 3) := by decide +kernel
theorem dX4_load_5 : decode cX4_load 5 = .ok (.ifCond .ne 5, 3) := by decide +kernel
theorem dX4_load_8 : decode cX4_load 8 = .ok (.iconst (-1), 1) := by decide +kernel
theorem dX4_load_9 : decode cX4_load 9 = .ok (.ireturn, 1) := by decide +kernel
theorem dX4_load_10 : decode cX4_load 10 = .ok (.iload_n 2, 1) := by decide +kernel
theorem dX4_load_11 : decode cX4_load 11 = .ok (.invokestatic 118, 3) := by decide +kernel
theorem dX4_load_14 : decode cX4_load 14 = .ok (.ifCond .eq 10, 3) := by decide +kernel
theorem dX4_load_17 : decode cX4_load 17 = .ok (.iload_n 3, 1) := by decide +kernel
theorem dX4_load_18 : decode cX4_load 18 = .ok (.invokestatic 140, 3) := by decide +kernel
theorem dX4_load_21 : decode cX4_load 21 = .ok (.ifCond .ne 6, 3) := by decide +kernel
theorem dX4_load_24 : decode cX4_load 24 = .ok (.bipush (-2), 2) := by decide +kernel
theorem dX4_load_26 : decode cX4_load 26 = .ok (.ireturn, 1) := by decide +kernel
theorem dX4_load_27 : decode cX4_load 27 = .ok (.aload_n 0, 1) := by decide +kernel
theorem dX4_load_28 : decode cX4_load 28 = .ok (.getfield 17, 3) := by decide +kernel
theorem dX4_load_31 : decode cX4_load 31 = .ok (.iload_n 1, 1) := by decide +kernel
theorem dX4_load_32 : decode cX4_load 32 = .ok (.aaload, 1) := by decide +kernel
theorem dX4_load_33 : decode cX4_load 33 = .ok (.getfield 121, 3) := by decide +kernel
theorem dX4_load_36 : decode cX4_load 36 = .ok (.astore 4, 2) := by decide +kernel
theorem dX4_load_38 : decode cX4_load 38 = .ok (.aload 4, 2) := by decide +kernel
theorem dX4_load_40 : decode cX4_load 40 = .ok (.iload_n 2, 1) := by decide +kernel
theorem dX4_load_41 : decode cX4_load 41 = .ok (.iaload, 1) := by decide +kernel
theorem dX4_load_42 : decode cX4_load 42 = .ok (.iload_n 3, 1) := by decide +kernel
theorem dX4_load_43 : decode cX4_load 43 = .ok (.iadd, 1) := by decide +kernel
theorem dX4_load_44 : decode cX4_load 44 = .ok (.bipush 9, 2) := by decide +kernel
theorem dX4_load_46 : decode cX4_load 46 = .ok (.if_icmp .le 6, 3) := by decide +kernel
theorem dX4_load_49 : decode cX4_load 49 = .ok (.bipush (-4), 2) := by decide +kernel
theorem dX4_load_51 : decode cX4_load 51 = .ok (.ireturn, 1) := by decide +kernel
theorem dX4_load_52 : decode cX4_load 52 = .ok (.aload 4, 2) := by decide +kernel
theorem dX4_load_54 : decode cX4_load 54 = .ok (.iload_n 2, 1) := by decide +kernel
theorem dX4_load_55 : decode cX4_load 55 = .ok (.dup2, 1) := by decide +kernel
theorem dX4_load_56 : decode cX4_load 56 = .ok (.iaload, 1) := by decide +kernel
theorem dX4_load_57 : decode cX4_load 57 = .ok (.iload_n 3, 1) := by decide +kernel
theorem dX4_load_58 : decode cX4_load 58 = .ok (.iadd, 1) := by decide +kernel
theorem dX4_load_59 : decode cX4_load 59 = .ok (.iastore, 1) := by decide +kernel
theorem dX4_load_60 : decode cX4_load 60 = .ok (.aload 4, 2) := by decide +kernel
theorem dX4_load_62 : decode cX4_load 62 = .ok (.iload_n 2, 1) := by decide +kernel
theorem dX4_load_63 : decode cX4_load 63 = .ok (.iaload, 1) := by decide +kernel
theorem dX4_load_64 : decode cX4_load 64 = .ok (.ireturn, 1) := by decide +kernel
theorem dX4_off_0 : decode cX4_off 0 = .ok (.aload_n 0, 1) := by decide +kernel
theorem dX4_off_1 : decode cX4_off 1 = .ok (.iload_n 1, 1) := by decide +kernel
theorem dX4_off_2 : decode cX4_off 2 = .ok (.invokevirtual 89, 3) := by decide +kernel
theorem dX4_off_5 : decode cX4_off 5 = .ok (.ifCond .ne 5, 3) := by decide +kernel
theorem dX4_off_8 : decode cX4_off 8 = .ok (.iconst (-1), 1) := by decide +kernel
theorem dX4_off_9 : decode cX4_off 9 = .ok (.ireturn, 1) := by decide +kernel
theorem dX4_off_10 : decode cX4_off 10 = .ok (.iload_n 2, 1) := by decide +kernel
theorem dX4_off_11 : decode cX4_off 11 = .ok (.invokestatic 118, 3) := by decide +kernel
theorem dX4_off_14 : decode cX4_off 14 = .ok (.ifCond .eq 10, 3) := by decide +kernel
theorem dX4_off_17 : decode cX4_off 17 = .ok (.iload_n 3, 1) := by decide +kernel
theorem dX4_off_18 : decode cX4_off 18 = .ok (.invokestatic 140, 3) := by decide +kernel
theorem dX4_off_21 : decode cX4_off 21 = .ok (.ifCond .ne 6, 3) := by decide +kernel
theorem dX4_off_24 : decode cX4_off 24 = .ok (.bipush (-2), 2) := by decide +kernel
theorem dX4_off_26 : decode cX4_off 26 = .ok (.ireturn, 1) := by decide +kernel
theorem dX4_off_27 : decode cX4_off 27 = .ok (.aload_n 0, 1) := by decide +kernel
theorem dX4_off_28 : decode cX4_off 28 = .ok (.getfield 17, 3) := by decide +kernel
theorem dX4_off_31 : decode cX4_off 31 = .ok (.iload_n 1, 1) := by decide +kernel
theorem dX4_off_32 : decode cX4_off 32 = .ok (.aaload, 1) := by decide +kernel
theorem dX4_off_33 : decode cX4_off 33 = .ok (.getfield 121, 3) := by decide +kernel
theorem dX4_off_36 : decode cX4_off 36 = .ok (.astore 4, 2) := by decide +kernel
theorem dX4_off_38 : decode cX4_off 38 = .ok (.aload 4, 2) := by decide +kernel
theorem dX4_off_40 : decode cX4_off 40 = .ok (.iload_n 2, 1) := by decide +kernel
theorem dX4_off_41 : decode cX4_off 41 = .ok (.iaload, 1) := by decide +kernel
theorem dX4_off_42 : decode cX4_off 42 = .ok (.iload_n 3, 1) := by decide +kernel
theorem dX4_off_43 : decode cX4_off 43 = .ok (.if_icmp .ge 6, 3) := by decide +kernel
theorem dX4_off_46 : decode cX4_off 46 = .ok (.bipush (-3), 2) := by decide +kernel
theorem dX4_off_48 : decode cX4_off 48 = .ok (.ireturn, 1) := by decide +kernel
theorem dX4_off_49 : decode cX4_off 49 = .ok (.aload 4, 2) := by decide +kernel
theorem dX4_off_51 : decode cX4_off 51 = .ok (.iload_n 2, 1) := by decide +kernel
theorem dX4_off_52 : decode cX4_off 52 = .ok (.dup2, 1) := by decide +kernel
theorem dX4_off_53 : decode cX4_off 53 = .ok (.iaload, 1) := by decide +kernel
theorem dX4_off_54 : decode cX4_off 54 = .ok (.iload_n 3, 1) := by decide +kernel
theorem dX4_off_55 : decode cX4_off 55 = .ok (.isub, 1) := by decide +kernel
theorem dX4_off_56 : decode cX4_off 56 = .ok (.iastore, 1) := by decide +kernel
theorem dX4_off_57 : decode cX4_off 57 = .ok (.aload 4, 2) := by decide +kernel
theorem dX4_off_59 : decode cX4_off 59 = .ok (.iload_n 2, 1) := by decide +kernel
theorem dX4_off_60 : decode cX4_off 60 = .ok (.iaload, 1) := by decide +kernel
theorem dX4_off_61 : decode cX4_off 61 = .ok (.ireturn, 1) := by decide +kernel
theorem dX4_voyage_0 : decode cX4_voyage 0 = .ok (.aload_n 0, 1) := by decide +kernel
theorem dX4_voyage_1 : decode cX4_voyage 1 = .ok (.iconst 0, 1) := by decide +kernel
theorem dX4_voyage_2 : decode cX4_voyage 2 = .ok (.putfield 58, 3) := by decide +kernel
theorem dX4_voyage_5 : decode cX4_voyage 5 = .ok (.iload_n 1, 1) := by decide +kernel
theorem dX4_voyage_6 : decode cX4_voyage 6 = .ok (.invokestatic 62, 3) := by decide +kernel
theorem dX4_voyage_9 : decode cX4_voyage 9 = .ok (.ifCond .ne 5, 3) := by decide +kernel
theorem dX4_voyage_12 : decode cX4_voyage 12 = .ok (.iconst (-1), 1) := by decide +kernel
theorem dX4_voyage_13 : decode cX4_voyage 13 = .ok (.ireturn, 1) := by decide +kernel
theorem dX4_voyage_14 : decode cX4_voyage 14 = .ok (.iload_n 2, 1) := by decide +kernel
theorem dX4_voyage_15 : decode cX4_voyage 15 = .ok (.iconst 3, 1) := by decide +kernel
theorem dX4_voyage_16 : decode cX4_voyage 16 = .ok (.invokestatic 66, 3) := by decide +kernel
theorem dX4_voyage_19 : decode cX4_voyage 19 = .ok (.ifCond .eq 21, 3) := by decide +kernel
theorem dX4_voyage_22 : decode cX4_voyage 22 = .ok (.iload 4, 2) := by decide +kernel
theorem dX4_voyage_24 : decode cX4_voyage 24 = .ok (.bipush 20, 2) := by decide +kernel
theorem dX4_voyage_26 : decode cX4_voyage 26 = .ok (.invokestatic 127, 3) := by decide +kernel
theorem dX4_voyage_29 : decode cX4_voyage 29 = .ok (.ifCond .eq 11, 3) := by decide +kernel
theorem dX4_voyage_32 : decode cX4_voyage 32 = .ok (.iload 5, 2) := by decide +kernel
theorem dX4_voyage_34 : decode cX4_voyage 34 = .ok (.invokestatic 143, 3) := by decide +kernel
theorem dX4_voyage_37 : decode cX4_voyage 37 = .ok (.ifCond .ne 6, 3) := by decide +kernel
theorem dX4_voyage_40 : decode cX4_voyage 40 = .ok (.bipush (-2), 2) := by decide +kernel
theorem dX4_voyage_42 : decode cX4_voyage 42 = .ok (.ireturn, 1) := by decide +kernel
theorem dX4_voyage_43 : decode cX4_voyage 43 = .ok (.aload_n 0, 1) := by decide +kernel
theorem dX4_voyage_44 : decode cX4_voyage 44 = .ok (.getfield 52, 3) := by decide +kernel
theorem dX4_voyage_47 : decode cX4_voyage 47 = .ok (.iload_n 1, 1) := by decide +kernel
theorem dX4_voyage_48 : decode cX4_voyage 48 = .ok (.aaload, 1) := by decide +kernel
theorem dX4_voyage_49 : decode cX4_voyage 49 = .ok (.astore 6, 2) := by decide +kernel
theorem dX4_voyage_51 : decode cX4_voyage 51 = .ok (.aload 6, 2) := by decide +kernel
theorem dX4_voyage_53 : decode cX4_voyage 53 = .ok (.iload_n 2, 1) := by decide +kernel
theorem dX4_voyage_54 : decode cX4_voyage 54 = .ok (.iload_n 3, 1) := by decide +kernel
theorem dX4_voyage_55 : decode cX4_voyage 55 = .ok (.iconst 2, 1) := by decide +kernel
theorem dX4_voyage_56 : decode cX4_voyage 56 = .ok (.iload 4, 2) := by decide +kernel
theorem dX4_voyage_58 : decode cX4_voyage 58 = .ok (.imul, 1) := by decide +kernel
theorem dX4_voyage_59 : decode cX4_voyage 59 = .ok (.invokevirtual 70, 3) := by decide +kernel
theorem dX4_voyage_62 : decode cX4_voyage 62 = .ok (.istore 7, 2) := by decide +kernel
theorem dX4_voyage_64 : decode cX4_voyage 64 = .ok (.iload 7, 2) := by decide +kernel
theorem dX4_voyage_66 : decode cX4_voyage 66 = .ok (.ifCond .eq 10, 3) := by decide +kernel
theorem dX4_voyage_69 : decode cX4_voyage 69 = .ok (.aload_n 0, 1) := by decide +kernel
theorem dX4_voyage_70 : decode cX4_voyage 70 = .ok (.iload 7, 2) := by decide +kernel
theorem dX4_voyage_72 : decode cX4_voyage 72 = .ok (.invokevirtual 74, 3) := by decide +kernel
theorem dX4_voyage_75 : decode cX4_voyage 75 = .ok (.ireturn, 1) := by decide +kernel
theorem dX4_voyage_76 : decode cX4_voyage 76 = .ok (.aload_n 0, 1) := by decide +kernel
theorem dX4_voyage_77 : decode cX4_voyage 77 = .ok (.invokevirtual 130, 3) := by decide +kernel
theorem dX4_voyage_80 : decode cX4_voyage 80 = .ok (.ifCond .ne 6, 3) := by decide +kernel
theorem dX4_voyage_83 : decode cX4_voyage 83 = .ok (.bipush (-3), 2) := by decide +kernel
theorem dX4_voyage_85 : decode cX4_voyage 85 = .ok (.ireturn, 1) := by decide +kernel
theorem dX4_voyage_86 : decode cX4_voyage 86 = .ok (.aload_n 0, 1) := by decide +kernel
theorem dX4_voyage_87 : decode cX4_voyage 87 = .ok (.aload 6, 2) := by decide +kernel
theorem dX4_voyage_89 : decode cX4_voyage 89 = .ok (.iload_n 3, 1) := by decide +kernel
theorem dX4_voyage_90 : decode cX4_voyage 90 = .ok (.iload 4, 2) := by decide +kernel
theorem dX4_voyage_92 : decode cX4_voyage 92 = .ok (.invokevirtual 146, 3) := by decide +kernel
theorem dX4_voyage_95 : decode cX4_voyage 95 = .ok (.istore 8, 2) := by decide +kernel
theorem dX4_voyage_97 : decode cX4_voyage 97 = .ok (.iload 8, 2) := by decide +kernel
theorem dX4_voyage_99 : decode cX4_voyage 99 = .ok (.ifCond .eq 6, 3) := by decide +kernel
theorem dX4_voyage_102 : decode cX4_voyage 102 = .ok (.iload 8, 2) := by decide +kernel
theorem dX4_voyage_104 : decode cX4_voyage 104 = .ok (.ireturn, 1) := by decide +kernel
theorem dX4_voyage_105 : decode cX4_voyage 105 = .ok (.aload_n 0, 1) := by decide +kernel
theorem dX4_voyage_106 : decode cX4_voyage 106 = .ok (.aload 6, 2) := by decide +kernel
theorem dX4_voyage_108 : decode cX4_voyage 108 = .ok (.iload_n 3, 1) := by decide +kernel
theorem dX4_voyage_109 : decode cX4_voyage 109 = .ok (.iload 4, 2) := by decide +kernel
theorem dX4_voyage_111 : decode cX4_voyage 111 = .ok (.invokevirtual 149, 3) := by decide +kernel
theorem dX4_voyage_114 : decode cX4_voyage 114 = .ok (.istore 9, 2) := by decide +kernel
theorem dX4_voyage_116 : decode cX4_voyage 116 = .ok (.iload 5, 2) := by decide +kernel
theorem dX4_voyage_118 : decode cX4_voyage 118 = .ok (.iconst 1, 1) := by decide +kernel
theorem dX4_voyage_119 : decode cX4_voyage 119 = .ok (.if_icmp .ne 6, 3) := by decide +kernel
theorem dX4_voyage_122 : decode cX4_voyage 122 = .ok (.iload 9, 2) := by decide +kernel
theorem dX4_voyage_124 : decode cX4_voyage 124 = .ok (.ireturn, 1) := by decide +kernel
theorem dX4_voyage_125 : decode cX4_voyage 125 = .ok (.iload 9, 2) := by decide +kernel
theorem dX4_voyage_127 : decode cX4_voyage 127 = .ok (.bipush (-9), 2) := by decide +kernel
theorem dX4_voyage_129 : decode cX4_voyage 129 = .ok (.if_icmp .ne 12, 3) := by decide +kernel
theorem dX4_voyage_132 : decode cX4_voyage 132 = .ok (.aload_n 0, 1) := by decide +kernel
theorem dX4_voyage_133 : decode cX4_voyage 133 = .ok (.iload 5, 2) := by decide +kernel
theorem dX4_voyage_135 : decode cX4_voyage 135 = .ok (.invokevirtual 152, 3) := by decide +kernel
theorem dX4_voyage_138 : decode cX4_voyage 138 = .ok (.goto 8, 3) := by decide +kernel
theorem dX4_voyage_141 : decode cX4_voyage 141 = .ok (.bipush (-100), 2) := by decide +kernel
theorem dX4_voyage_143 : decode cX4_voyage 143 = .ok (.iload 9, 2) := by decide +kernel
theorem dX4_voyage_145 : decode cX4_voyage 145 = .ok (.isub, 1) := by decide +kernel
theorem dX4_voyage_146 : decode cX4_voyage 146 = .ok (.ireturn, 1) := by decide +kernel
end
section
theorem dX4_keeps_0 : decode cX4_keeps 0 = .ok (.aload_n 0, 1) := by decide +kernel
theorem dX4_keeps_1 : decode cX4_keeps 1 = .ok (.iload_n 1, 1) := by decide +kernel
theorem dX4_keeps_2 : decode cX4_keeps 2 = .ok (.invokevirtual 89, 3) := by decide +kernel
theorem dX4_keeps_5 : decode cX4_keeps 5 = .ok (.ifCond .ne 5, 3) := by decide +kernel
theorem dX4_keeps_8 : decode cX4_keeps 8 = .ok (.iconst (-1), 1) := by decide +kernel
theorem dX4_keeps_9 : decode cX4_keeps 9 = .ok (.ireturn, 1) := by decide +kernel
theorem dX4_keeps_10 : decode cX4_keeps 10 = .ok (.aload_n 0, 1) := by decide +kernel
theorem dX4_keeps_11 : decode cX4_keeps 11 = .ok (.getfield 17, 3) := by decide +kernel
theorem dX4_keeps_14 : decode cX4_keeps 14 = .ok (.iload_n 1, 1) := by decide +kernel
theorem dX4_keeps_15 : decode cX4_keeps 15 = .ok (.aaload, 1) := by decide +kernel
theorem dX4_keeps_16 : decode cX4_keeps 16 = .ok (.astore_n 2, 1) := by decide +kernel
theorem dX4_keeps_17 : decode cX4_keeps 17 = .ok (.aload_n 2, 1) := by decide +kernel
theorem dX4_keeps_18 : decode cX4_keeps 18 = .ok (.invokevirtual 101, 3) := by decide +kernel
theorem dX4_keeps_21 : decode cX4_keeps 21 = .ok (.istore_n 3, 1) := by decide +kernel
theorem dX4_keeps_22 : decode cX4_keeps 22 = .ok (.aload_n 2, 1) := by decide +kernel
theorem dX4_keeps_23 : decode cX4_keeps 23 = .ok (.getfield 121, 3) := by decide +kernel
theorem dX4_keeps_26 : decode cX4_keeps 26 = .ok (.aload_n 2, 1) := by decide +kernel
theorem dX4_keeps_27 : decode cX4_keeps 27 = .ok (.getfield 95, 3) := by decide +kernel
theorem dX4_keeps_30 : decode cX4_keeps 30 = .ok (.iaload, 1) := by decide +kernel
theorem dX4_keeps_31 : decode cX4_keeps 31 = .ok (.istore 4, 2) := by decide +kernel
theorem dX4_keeps_33 : decode cX4_keeps 33 = .ok (.aload_n 2, 1) := by decide +kernel
theorem dX4_keeps_34 : decode cX4_keeps 34 = .ok (.getfield 105, 3) := by decide +kernel
theorem dX4_keeps_37 : decode cX4_keeps 37 = .ok (.istore 5, 2) := by decide +kernel
theorem dX4_keeps_39 : decode cX4_keeps 39 = .ok (.iconst 0, 1) := by decide +kernel
theorem dX4_keeps_40 : decode cX4_keeps 40 = .ok (.istore 6, 2) := by decide +kernel
theorem dX4_keeps_42 : decode cX4_keeps 42 = .ok (.iload 4, 2) := by decide +kernel
theorem dX4_keeps_44 : decode cX4_keeps 44 = .ok (.ifCond .le 38, 3) := by decide +kernel
theorem dX4_keeps_47 : decode cX4_keeps 47 = .ok (.iload 6, 2) := by decide +kernel
theorem dX4_keeps_49 : decode cX4_keeps 49 = .ok (.bipush 30, 2) := by decide +kernel
theorem dX4_keeps_51 : decode cX4_keeps 51 = .ok (.if_icmp .ge 31, 3) := by decide +kernel
theorem dX4_keeps_54 : decode cX4_keeps 54 = .ok (.aload_n 0, 1) := by decide +kernel
theorem dX4_keeps_55 : decode cX4_keeps 55 = .ok (.getfield 11, 3) := by decide +kernel
theorem dX4_keeps_58 : decode cX4_keeps 58 = .ok (.iload 5, 2) := by decide +kernel
theorem dX4_keeps_60 : decode cX4_keeps 60 = .ok (.iaload, 1) := by decide +kernel
theorem dX4_keeps_61 : decode cX4_keeps 61 = .ok (.iload_n 3, 1) := by decide +kernel
theorem dX4_keeps_62 : decode cX4_keeps 62 = .ok (.if_icmp .le 6, 3) := by decide +kernel
theorem dX4_keeps_65 : decode cX4_keeps 65 = .ok (.iinc 4 (-1), 3) := by decide +kernel
theorem dX4_keeps_68 : decode cX4_keeps 68 = .ok (.aload_n 0, 1) := by decide +kernel
theorem dX4_keeps_69 : decode cX4_keeps 69 = .ok (.iload 5, 2) := by decide +kernel
theorem dX4_keeps_71 : decode cX4_keeps 71 = .ok (.invokevirtual 155, 3) := by decide +kernel
theorem dX4_keeps_74 : decode cX4_keeps 74 = .ok (.istore 5, 2) := by decide +kernel
theorem dX4_keeps_76 : decode cX4_keeps 76 = .ok (.iinc 6 1, 3) := by decide +kernel
theorem dX4_keeps_79 : decode cX4_keeps 79 = .ok (.goto (-37), 3) := by decide +kernel
theorem dX4_keeps_82 : decode cX4_keeps 82 = .ok (.iload 4, 2) := by decide +kernel
theorem dX4_keeps_84 : decode cX4_keeps 84 = .ok (.ifCond .ne 8, 3) := by decide +kernel
theorem dX4_keeps_87 : decode cX4_keeps 87 = .ok (.iload 6, 2) := by decide +kernel
theorem dX4_keeps_89 : decode cX4_keeps 89 = .ok (.goto 5, 3) := by decide +kernel
theorem dX4_keeps_92 : decode cX4_keeps 92 = .ok (.bipush (-9), 2) := by decide +kernel
theorem dX4_keeps_94 : decode cX4_keeps 94 = .ok (.ireturn, 1) := by decide +kernel
theorem dX4_harbour_0 : decode cX4_harbour 0 = .ok (.aload_n 0, 1) := by decide +kernel
theorem dX4_harbour_1 : decode cX4_harbour 1 = .ok (.iload_n 1, 1) := by decide +kernel
theorem dX4_harbour_2 : decode cX4_harbour 2 = .ok (.invokevirtual 89, 3) := by decide +kernel
theorem dX4_harbour_5 : decode cX4_harbour 5 = .ok (.ifCond .ne 5, 3) := by decide +kernel
theorem dX4_harbour_8 : decode cX4_harbour 8 = .ok (.iconst (-1), 1) := by decide +kernel
theorem dX4_harbour_9 : decode cX4_harbour 9 = .ok (.ireturn, 1) := by decide +kernel
theorem dX4_harbour_10 : decode cX4_harbour 10 = .ok (.iload_n 2, 1) := by decide +kernel
theorem dX4_harbour_11 : decode cX4_harbour 11 = .ok (.bipush 30, 2) := by decide +kernel
theorem dX4_harbour_13 : decode cX4_harbour 13 = .ok (.invokestatic 127, 3) := by decide +kernel
theorem dX4_harbour_16 : decode cX4_harbour 16 = .ok (.ifCond .eq 11, 3) := by decide +kernel
theorem dX4_harbour_19 : decode cX4_harbour 19 = .ok (.iload_n 3, 1) := by decide +kernel
theorem dX4_harbour_20 : decode cX4_harbour 20 = .ok (.iconst 1, 1) := by decide +kernel
theorem dX4_harbour_21 : decode cX4_harbour 21 = .ok (.invokestatic 127, 3) := by decide +kernel
theorem dX4_harbour_24 : decode cX4_harbour 24 = .ok (.ifCond .ne 6, 3) := by decide +kernel
theorem dX4_harbour_27 : decode cX4_harbour 27 = .ok (.bipush (-2), 2) := by decide +kernel
theorem dX4_harbour_29 : decode cX4_harbour 29 = .ok (.ireturn, 1) := by decide +kernel
theorem dX4_harbour_30 : decode cX4_harbour 30 = .ok (.aload_n 0, 1) := by decide +kernel
theorem dX4_harbour_31 : decode cX4_harbour 31 = .ok (.getfield 17, 3) := by decide +kernel
theorem dX4_harbour_34 : decode cX4_harbour 34 = .ok (.iload_n 1, 1) := by decide +kernel
theorem dX4_harbour_35 : decode cX4_harbour 35 = .ok (.aaload, 1) := by decide +kernel
theorem dX4_harbour_36 : decode cX4_harbour 36 = .ok (.astore 4, 2) := by decide +kernel
theorem dX4_harbour_38 : decode cX4_harbour 38 = .ok (.iconst 0, 1) := by decide +kernel
theorem dX4_harbour_39 : decode cX4_harbour 39 = .ok (.istore 5, 2) := by decide +kernel
theorem dX4_harbour_41 : decode cX4_harbour 41 = .ok (.aload_n 0, 1) := by decide +kernel
theorem dX4_harbour_42 : decode cX4_harbour 42 = .ok (.aload 4, 2) := by decide +kernel
theorem dX4_harbour_44 : decode cX4_harbour 44 = .ok (.iconst 0, 1) := by decide +kernel
theorem dX4_harbour_45 : decode cX4_harbour 45 = .ok (.iload_n 2, 1) := by decide +kernel
theorem dX4_harbour_46 : decode cX4_harbour 46 = .ok (.invokevirtual 158, 3) := by decide +kernel
theorem dX4_harbour_49 : decode cX4_harbour 49 = .ok (.istore 6, 2) := by decide +kernel
theorem dX4_harbour_51 : decode cX4_harbour 51 = .ok (.iconst 1, 1) := by decide +kernel
theorem dX4_harbour_52 : decode cX4_harbour 52 = .ok (.istore 7, 2) := by decide +kernel
theorem dX4_harbour_54 : decode cX4_harbour 54 = .ok (.iload 7, 2) := by decide +kernel
theorem dX4_harbour_56 : decode cX4_harbour 56 = .ok (.aload_n 0, 1) := by decide +kernel
theorem dX4_harbour_57 : decode cX4_harbour 57 = .ok (.getfield 162, 3) := by decide +kernel
theorem dX4_harbour_60 : decode cX4_harbour 60 = .ok (.if_icmp .ge 35, 3) := by decide +kernel
theorem dX4_harbour_63 : decode cX4_harbour 63 = .ok (.aload_n 0, 1) := by decide +kernel
theorem dX4_harbour_64 : decode cX4_harbour 64 = .ok (.aload 4, 2) := by decide +kernel
theorem dX4_harbour_66 : decode cX4_harbour 66 = .ok (.iload 7, 2) := by decide +kernel
theorem dX4_harbour_68 : decode cX4_harbour 68 = .ok (.iload_n 2, 1) := by decide +kernel
theorem dX4_harbour_69 : decode cX4_harbour 69 = .ok (.invokevirtual 158, 3) := by decide +kernel
theorem dX4_harbour_72 : decode cX4_harbour 72 = .ok (.istore 8, 2) := by decide +kernel
theorem dX4_harbour_74 : decode cX4_harbour 74 = .ok (.iload 8, 2) := by decide +kernel
theorem dX4_harbour_76 : decode cX4_harbour 76 = .ok (.iload 6, 2) := by decide +kernel
theorem dX4_harbour_78 : decode cX4_harbour 78 = .ok (.if_icmp .ge 11, 3) := by decide +kernel
theorem dX4_harbour_81 : decode cX4_harbour 81 = .ok (.iload 7, 2) := by decide +kernel
theorem dX4_harbour_83 : decode cX4_harbour 83 = .ok (.istore 5, 2) := by decide +kernel
theorem dX4_harbour_85 : decode cX4_harbour 85 = .ok (.iload 8, 2) := by decide +kernel
theorem dX4_harbour_87 : decode cX4_harbour 87 = .ok (.istore 6, 2) := by decide +kernel
theorem dX4_harbour_89 : decode cX4_harbour 89 = .ok (.iinc 7 1, 3) := by decide +kernel
theorem dX4_harbour_92 : decode cX4_harbour 92 = .ok (.goto (-38), 3) := by decide +kernel
theorem dX4_harbour_95 : decode cX4_harbour 95 = .ok (.iload_n 3, 1) := by decide +kernel
theorem dX4_harbour_96 : decode cX4_harbour 96 = .ok (.ifCond .ne 8, 3) := by decide +kernel
theorem dX4_harbour_99 : decode cX4_harbour 99 = .ok (.iload 5, 2) := by decide +kernel
theorem dX4_harbour_101 : decode cX4_harbour 101 = .ok (.goto 5, 3) := by decide +kernel
theorem dX4_harbour_104 : decode cX4_harbour 104 = .ok (.iload 6, 2) := by decide +kernel
theorem dX4_harbour_106 : decode cX4_harbour 106 = .ok (.ireturn, 1) := by decide +kernel
theorem dX4_stow_0 : decode cX4_stow 0 = .ok (.aload_n 0, 1) := by decide +kernel
theorem dX4_stow_1 : decode cX4_stow 1 = .ok (.iload_n 1, 1) := by decide +kernel
theorem dX4_stow_2 : decode cX4_stow 2 = .ok (.invokevirtual 89, 3) := by decide +kernel
theorem dX4_stow_5 : decode cX4_stow 5 = .ok (.ifCond .ne 5, 3) := by decide +kernel
theorem dX4_stow_8 : decode cX4_stow 8 = .ok (.iconst (-1), 1) := by decide +kernel
theorem dX4_stow_9 : decode cX4_stow 9 = .ok (.ireturn, 1) := by decide +kernel
theorem dX4_stow_10 : decode cX4_stow 10 = .ok (.iload_n 2, 1) := by decide +kernel
theorem dX4_stow_11 : decode cX4_stow 11 = .ok (.bipush 30, 2) := by decide +kernel
theorem dX4_stow_13 : decode cX4_stow 13 = .ok (.invokestatic 127, 3) := by decide +kernel
theorem dX4_stow_16 : decode cX4_stow 16 = .ok (.ifCond .eq 12, 3) := by decide +kernel
theorem dX4_stow_19 : decode cX4_stow 19 = .ok (.iload_n 3, 1) := by decide +kernel
theorem dX4_stow_20 : decode cX4_stow 20 = .ok (.bipush 12, 2) := by decide +kernel
theorem dX4_stow_22 : decode cX4_stow 22 = .ok (.invokestatic 127, 3) := by decide +kernel
theorem dX4_stow_25 : decode cX4_stow 25 = .ok (.ifCond .ne 6, 3) := by decide +kernel
theorem dX4_stow_28 : decode cX4_stow 28 = .ok (.bipush (-2), 2) := by decide +kernel
theorem dX4_stow_30 : decode cX4_stow 30 = .ok (.ireturn, 1) := by decide +kernel
theorem dX4_stow_31 : decode cX4_stow 31 = .ok (.iload 4, 2) := by decide +kernel
theorem dX4_stow_33 : decode cX4_stow 33 = .ok (.iconst 1, 1) := by decide +kernel
theorem dX4_stow_34 : decode cX4_stow 34 = .ok (.invokestatic 127, 3) := by decide +kernel
theorem dX4_stow_37 : decode cX4_stow 37 = .ok (.ifCond .ne 17, 3) := by decide +kernel
theorem dX4_stow_40 : decode cX4_stow 40 = .ok (.iload 4, 2) := by decide +kernel
theorem dX4_stow_42 : decode cX4_stow 42 = .ok (.bipush 10, 2) := by decide +kernel
theorem dX4_stow_44 : decode cX4_stow 44 = .ok (.isub, 1) := by decide +kernel
theorem dX4_stow_45 : decode cX4_stow 45 = .ok (.invokestatic 118, 3) := by decide +kernel
theorem dX4_stow_48 : decode cX4_stow 48 = .ok (.ifCond .ne 6, 3) := by decide +kernel
theorem dX4_stow_51 : decode cX4_stow 51 = .ok (.bipush (-2), 2) := by decide +kernel
theorem dX4_stow_53 : decode cX4_stow 53 = .ok (.ireturn, 1) := by decide +kernel
theorem dX4_stow_54 : decode cX4_stow 54 = .ok (.aload_n 0, 1) := by decide +kernel
theorem dX4_stow_55 : decode cX4_stow 55 = .ok (.getfield 17, 3) := by decide +kernel
theorem dX4_stow_58 : decode cX4_stow 58 = .ok (.iload_n 1, 1) := by decide +kernel
theorem dX4_stow_59 : decode cX4_stow 59 = .ok (.aaload, 1) := by decide +kernel
theorem dX4_stow_60 : decode cX4_stow 60 = .ok (.astore 5, 2) := by decide +kernel
theorem dX4_stow_62 : decode cX4_stow 62 = .ok (.aload_n 0, 1) := by decide +kernel
theorem dX4_stow_63 : decode cX4_stow 63 = .ok (.getfield 34, 3) := by decide +kernel
theorem dX4_stow_66 : decode cX4_stow 66 = .ok (.iload_n 3, 1) := by decide +kernel
theorem dX4_stow_67 : decode cX4_stow 67 = .ok (.aload 5, 2) := by decide +kernel
theorem dX4_stow_69 : decode cX4_stow 69 = .ok (.getfield 95, 3) := by decide +kernel
theorem dX4_stow_72 : decode cX4_stow 72 = .ok (.aload_n 0, 1) := by decide +kernel
theorem dX4_stow_73 : decode cX4_stow 73 = .ok (.aload 5, 2) := by decide +kernel
theorem dX4_stow_75 : decode cX4_stow 75 = .ok (.invokevirtual 101, 3) := by decide +kernel
theorem dX4_stow_78 : decode cX4_stow 78 = .ok (.aload 5, 2) := by decide +kernel
theorem dX4_stow_80 : decode cX4_stow 80 = .ok (.getfield 105, 3) := by decide +kernel
theorem dX4_stow_83 : decode cX4_stow 83 = .ok (.iload_n 2, 1) := by decide +kernel
theorem dX4_stow_84 : decode cX4_stow 84 = .ok (.invokevirtual 165, 3) := by decide +kernel
theorem dX4_stow_87 : decode cX4_stow 87 = .ok (.invokevirtual 168, 3) := by decide +kernel
theorem dX4_stow_90 : decode cX4_stow 90 = .ok (.iload 4, 2) := by decide +kernel
theorem dX4_stow_92 : decode cX4_stow 92 = .ok (.ifCond .ne 11, 3) := by decide +kernel
theorem dX4_stow_95 : decode cX4_stow 95 = .ok (.aload_n 0, 1) := by decide +kernel
theorem dX4_stow_96 : decode cX4_stow 96 = .ok (.getfield 34, 3) := by decide +kernel
theorem dX4_stow_99 : decode cX4_stow 99 = .ok (.getfield 172, 3) := by decide +kernel
theorem dX4_stow_102 : decode cX4_stow 102 = .ok (.ireturn, 1) := by decide +kernel
theorem dX4_stow_103 : decode cX4_stow 103 = .ok (.iload 4, 2) := by decide +kernel
theorem dX4_stow_105 : decode cX4_stow 105 = .ok (.iconst 1, 1) := by decide +kernel
theorem dX4_stow_106 : decode cX4_stow 106 = .ok (.if_icmp .ne 13, 3) := by decide +kernel
theorem dX4_stow_109 : decode cX4_stow 109 = .ok (.aload_n 0, 1) := by decide +kernel
theorem dX4_stow_110 : decode cX4_stow 110 = .ok (.getfield 34, 3) := by decide +kernel
theorem dX4_stow_113 : decode cX4_stow 113 = .ok (.getfield 175, 3) := by decide +kernel
theorem dX4_stow_116 : decode cX4_stow 116 = .ok (.goto 16, 3) := by decide +kernel
theorem dX4_stow_119 : decode cX4_stow 119 = .ok (.aload_n 0, 1) := by decide +kernel
theorem dX4_stow_120 : decode cX4_stow 120 = .ok (.getfield 34, 3) := by decide +kernel
theorem dX4_stow_123 : decode cX4_stow 123 = .ok (.getfield 178, 3) := by decide +kernel
theorem dX4_stow_126 : decode cX4_stow 126 = .ok (.iload 4, 2) := by decide +kernel
theorem dX4_stow_128 : decode cX4_stow 128 = .ok (.bipush 10, 2) := by decide +kernel
theorem dX4_stow_130 : decode cX4_stow 130 = .ok (.isub, 1) := by decide +kernel
theorem dX4_stow_131 : decode cX4_stow 131 = .ok (.iaload, 1) := by decide +kernel
theorem dX4_stow_132 : decode cX4_stow 132 = .ok (.ireturn, 1) := by decide +kernel
theorem dX4_cover_0 : decode cX4_cover 0 = .ok (.aload_n 0, 1) := by decide +kernel
theorem dX4_cover_1 : decode cX4_cover 1 = .ok (.invokevirtual 130, 3) := by decide +kernel
theorem dX4_cover_4 : decode cX4_cover 4 = .ok (.ifCond .ne 6, 3) := by decide +kernel
theorem dX4_cover_7 : decode cX4_cover 7 = .ok (.bipush (-3), 2) := by decide +kernel
theorem dX4_cover_9 : decode cX4_cover 9 = .ok (.ireturn, 1) := by decide +kernel
theorem dX4_cover_10 : decode cX4_cover 10 = .ok (.iconst 0, 1) := by decide +kernel
theorem dX4_cover_11 : decode cX4_cover 11 = .ok (.istore_n 1, 1) := by decide +kernel
theorem dX4_cover_12 : decode cX4_cover 12 = .ok (.iconst 0, 1) := by decide +kernel
theorem dX4_cover_13 : decode cX4_cover 13 = .ok (.istore_n 2, 1) := by decide +kernel
theorem dX4_cover_14 : decode cX4_cover 14 = .ok (.iconst 0, 1) := by decide +kernel
theorem dX4_cover_15 : decode cX4_cover 15 = .ok (.istore_n 3, 1) := by decide +kernel
theorem dX4_cover_16 : decode cX4_cover 16 = .ok (.iload_n 3, 1) := by decide +kernel
theorem dX4_cover_17 : decode cX4_cover 17 = .ok (.aload_n 0, 1) := by decide +kernel
theorem dX4_cover_18 : decode cX4_cover 18 = .ok (.getfield 86, 3) := by decide +kernel
theorem dX4_cover_21 : decode cX4_cover 21 = .ok (.if_icmp .ge 40, 3) := by decide +kernel
theorem dX4_cover_24 : decode cX4_cover 24 = .ok (.iconst 1, 1) := by decide +kernel
theorem dX4_cover_25 : decode cX4_cover 25 = .ok (.aload_n 0, 1) := by decide +kernel
theorem dX4_cover_26 : decode cX4_cover 26 = .ok (.getfield 17, 3) := by decide +kernel
theorem dX4_cover_29 : decode cX4_cover 29 = .ok (.iload_n 3, 1) := by decide +kernel
theorem dX4_cover_30 : decode cX4_cover 30 = .ok (.aaload, 1) := by decide +kernel
theorem dX4_cover_31 : decode cX4_cover 31 = .ok (.getfield 95, 3) := by decide +kernel
theorem dX4_cover_34 : decode cX4_cover 34 = .ok (.ishl, 1) := by decide +kernel
theorem dX4_cover_35 : decode cX4_cover 35 = .ok (.istore 4, 2) := by decide +kernel
theorem dX4_cover_37 : decode cX4_cover 37 = .ok (.iload_n 1, 1) := by decide +kernel
theorem dX4_cover_38 : decode cX4_cover 38 = .ok (.iload 4, 2) := by decide +kernel
theorem dX4_cover_40 : decode cX4_cover 40 = .ok (.iand, 1) := by decide +kernel
theorem dX4_cover_41 : decode cX4_cover 41 = .ok (.ifCond .ne 14, 3) := by decide +kernel
theorem dX4_cover_44 : decode cX4_cover 44 = .ok (.iload_n 1, 1) := by decide +kernel
theorem dX4_cover_45 : decode cX4_cover 45 = .ok (.iload 4, 2) := by decide +kernel
theorem dX4_cover_47 : decode cX4_cover 47 = .ok (.ior, 1) := by decide +kernel
theorem dX4_cover_48 : decode cX4_cover 48 = .ok (.istore_n 1, 1) := by decide +kernel
theorem dX4_cover_49 : decode cX4_cover 49 = .ok (.iload_n 2, 1) := by decide +kernel
theorem dX4_cover_50 : decode cX4_cover 50 = .ok (.iconst 1, 1) := by decide +kernel
theorem dX4_cover_51 : decode cX4_cover 51 = .ok (.iload_n 3, 1) := by decide +kernel
theorem dX4_cover_52 : decode cX4_cover 52 = .ok (.ishl, 1) := by decide +kernel
theorem dX4_cover_53 : decode cX4_cover 53 = .ok (.ior, 1) := by decide +kernel
theorem dX4_cover_54 : decode cX4_cover 54 = .ok (.istore_n 2, 1) := by decide +kernel
theorem dX4_cover_55 : decode cX4_cover 55 = .ok (.iinc 3 1, 3) := by decide +kernel
theorem dX4_cover_58 : decode cX4_cover 58 = .ok (.goto (-42), 3) := by decide +kernel
theorem dX4_cover_61 : decode cX4_cover 61 = .ok (.iload_n 2, 1) := by decide +kernel
theorem dX4_cover_62 : decode cX4_cover 62 = .ok (.ireturn, 1) := by decide +kernel
theorem dX4_reading_0 : decode cX4_reading 0 = .ok (.aload_n 0, 1) := by decide +kernel
theorem dX4_reading_1 : decode cX4_reading 1 = .ok (.iload_n 1, 1) := by decide +kernel
theorem dX4_reading_2 : decode cX4_reading 2 = .ok (.invokevirtual 89, 3) := by decide +kernel
theorem dX4_reading_5 : decode cX4_reading 5 = .ok (.ifCond .eq 11, 3) := by decide +kernel
theorem dX4_reading_8 : decode cX4_reading 8 = .ok (.aload_n 0, 1) := by decide +kernel
theorem dX4_reading_9 : decode cX4_reading 9 = .ok (.iload_n 2, 1) := by decide +kernel
theorem dX4_reading_10 : decode cX4_reading 10 = .ok (.invokevirtual 124, 3) := by decide +kernel
theorem dX4_reading_13 : decode cX4_reading 13 = .ok (.ifCond .ne 5, 3) := by decide +kernel
theorem dX4_reading_16 : decode cX4_reading 16 = .ok (.iconst (-1), 1) := by decide +kernel
theorem dX4_reading_17 : decode cX4_reading 17 = .ok (.ireturn, 1) := by decide +kernel
theorem dX4_reading_18 : decode cX4_reading 18 = .ok (.iload_n 3, 1) := by decide +kernel
theorem dX4_reading_19 : decode cX4_reading 19 = .ok (.iconst 1, 1) := by decide +kernel
theorem dX4_reading_20 : decode cX4_reading 20 = .ok (.invokestatic 127, 3) := by decide +kernel
theorem dX4_reading_23 : decode cX4_reading 23 = .ok (.ifCond .ne 6, 3) := by decide +kernel
theorem dX4_reading_26 : decode cX4_reading 26 = .ok (.bipush (-2), 2) := by decide +kernel
theorem dX4_reading_28 : decode cX4_reading 28 = .ok (.ireturn, 1) := by decide +kernel
theorem dX4_reading_29 : decode cX4_reading 29 = .ok (.aload_n 0, 1) := by decide +kernel
theorem dX4_reading_30 : decode cX4_reading 30 = .ok (.getfield 181, 3) := by decide +kernel
theorem dX4_reading_33 : decode cX4_reading 33 = .ok (.bipush 8, 2) := by decide +kernel
theorem dX4_reading_35 : decode cX4_reading 35 = .ok (.if_icmp .lt 6, 3) := by decide +kernel
theorem dX4_reading_38 : decode cX4_reading 38 = .ok (.bipush (-4), 2) := by decide +kernel
theorem dX4_reading_40 : decode cX4_reading 40 = .ok (.ireturn, 1) := by decide +kernel
theorem dX4_reading_41 : decode cX4_reading 41 = .ok (.aload_n 0, 1) := by decide +kernel
theorem dX4_reading_42 : decode cX4_reading 42 = .ok (.getfield 41, 3) := by decide +kernel
theorem dX4_reading_45 : decode cX4_reading 45 = .ok (.aload_n 0, 1) := by decide +kernel
theorem dX4_reading_46 : decode cX4_reading 46 = .ok (.getfield 181, 3) := by decide +kernel
theorem dX4_reading_49 : decode cX4_reading 49 = .ok (.iload_n 1, 1) := by decide +kernel
theorem dX4_reading_50 : decode cX4_reading 50 = .ok (.iastore, 1) := by decide +kernel
theorem dX4_reading_51 : decode cX4_reading 51 = .ok (.aload_n 0, 1) := by decide +kernel
theorem dX4_reading_52 : decode cX4_reading 52 = .ok (.getfield 44, 3) := by decide +kernel
theorem dX4_reading_55 : decode cX4_reading 55 = .ok (.aload_n 0, 1) := by decide +kernel
theorem dX4_reading_56 : decode cX4_reading 56 = .ok (.getfield 181, 3) := by decide +kernel
theorem dX4_reading_59 : decode cX4_reading 59 = .ok (.iload_n 2, 1) := by decide +kernel
theorem dX4_reading_60 : decode cX4_reading 60 = .ok (.iastore, 1) := by decide +kernel
theorem dX4_reading_61 : decode cX4_reading 61 = .ok (.aload_n 0, 1) := by decide +kernel
theorem dX4_reading_62 : decode cX4_reading 62 = .ok (.getfield 47, 3) := by decide +kernel
theorem dX4_reading_65 : decode cX4_reading 65 = .ok (.aload_n 0, 1) := by decide +kernel
theorem dX4_reading_66 : decode cX4_reading 66 = .ok (.getfield 181, 3) := by decide +kernel
theorem dX4_reading_69 : decode cX4_reading 69 = .ok (.iload_n 3, 1) := by decide +kernel
theorem dX4_reading_70 : decode cX4_reading 70 = .ok (.iastore, 1) := by decide +kernel
theorem dX4_reading_71 : decode cX4_reading 71 = .ok (.aload_n 0, 1) := by decide +kernel
theorem dX4_reading_72 : decode cX4_reading 72 = .ok (.dup, 1) := by decide +kernel
theorem dX4_reading_73 : decode cX4_reading 73 = .ok (.getfield 181, 3) := by decide +kernel
theorem dX4_reading_76 : decode cX4_reading 76 = .ok (.iconst 1, 1) := by decide +kernel
theorem dX4_reading_77 : decode cX4_reading 77 = .ok (.iadd, 1) := by decide +kernel
theorem dX4_reading_78 : decode cX4_reading 78 = .ok (.putfield 181, 3) := by decide +kernel
theorem dX4_reading_81 : decode cX4_reading 81 = .ok (.aload_n 0, 1) := by decide +kernel
theorem dX4_reading_82 : decode cX4_reading 82 = .ok (.getfield 181, 3) := by decide +kernel
theorem dX4_reading_85 : decode cX4_reading 85 = .ok (.iconst 1, 1) := by decide +kernel
theorem dX4_reading_86 : decode cX4_reading 86 = .ok (.isub, 1) := by decide +kernel
theorem dX4_reading_87 : decode cX4_reading 87 = .ok (.ireturn, 1) := by decide +kernel
theorem dX4_back_0 : decode cX4_back 0 = .ok (.iload_n 1, 1) := by decide +kernel
theorem dX4_back_1 : decode cX4_back 1 = .ok (.aload_n 0, 1) := by decide +kernel
theorem dX4_back_2 : decode cX4_back 2 = .ok (.getfield 181, 3) := by decide +kernel
theorem dX4_back_5 : decode cX4_back 5 = .ok (.invokestatic 127, 3) := by decide +kernel
theorem dX4_back_8 : decode cX4_back 8 = .ok (.ifCond .ne 6, 3) := by decide +kernel
theorem dX4_back_11 : decode cX4_back 11 = .ok (.bipush (-2), 2) := by decide +kernel
theorem dX4_back_13 : decode cX4_back 13 = .ok (.ireturn, 1) := by decide +kernel
theorem dX4_back_14 : decode cX4_back 14 = .ok (.aload_n 0, 1) := by decide +kernel
theorem dX4_back_15 : decode cX4_back 15 = .ok (.dup, 1) := by decide +kernel
theorem dX4_back_16 : decode cX4_back 16 = .ok (.getfield 181, 3) := by decide +kernel
theorem dX4_back_19 : decode cX4_back 19 = .ok (.iload_n 1, 1) := by decide +kernel
theorem dX4_back_20 : decode cX4_back 20 = .ok (.isub, 1) := by decide +kernel
theorem dX4_back_21 : decode cX4_back 21 = .ok (.putfield 181, 3) := by decide +kernel
theorem dX4_back_24 : decode cX4_back 24 = .ok (.aload_n 0, 1) := by decide +kernel
theorem dX4_back_25 : decode cX4_back 25 = .ok (.getfield 181, 3) := by decide +kernel
theorem dX4_back_28 : decode cX4_back 28 = .ok (.ireturn, 1) := by decide +kernel
theorem dX4_strengths_0 : decode cX4_strengths 0 = .ok (.aload_n 0, 1) := by decide +kernel
theorem dX4_strengths_1 : decode cX4_strengths 1 = .ok (.iload_n 1, 1) := by decide +kernel
theorem dX4_strengths_2 : decode cX4_strengths 2 = .ok (.invokevirtual 89, 3) := by decide +kernel
theorem dX4_strengths_5 : decode cX4_strengths 5 = .ok (.ifCond .ne 5, 3) := by decide +kernel
theorem dX4_strengths_8 : decode cX4_strengths 8 = .ok (.iconst (-1), 1) := by decide +kernel
theorem dX4_strengths_9 : decode cX4_strengths 9 = .ok (.ireturn, 1) := by decide +kernel
theorem dX4_strengths_10 : decode cX4_strengths 10 = .ok (.iconst 0, 1) := by decide +kernel
theorem dX4_strengths_11 : decode cX4_strengths 11 = .ok (.istore_n 2, 1) := by decide +kernel
theorem dX4_strengths_12 : decode cX4_strengths 12 = .ok (.iconst 0, 1) := by decide +kernel
theorem dX4_strengths_13 : decode cX4_strengths 13 = .ok (.istore_n 3, 1) := by decide +kernel
theorem dX4_strengths_14 : decode cX4_strengths 14 = .ok (.iload_n 3, 1) := by decide +kernel
theorem dX4_strengths_15 : decode cX4_strengths 15 = .ok (.bipush 9, 2) := by decide +kernel
theorem dX4_strengths_17 : decode cX4_strengths 17 = .ok (.if_icmp .gt 36, 3) := by decide +kernel
theorem dX4_strengths_20 : decode cX4_strengths 20 = .ok (.aload_n 0, 1) := by decide +kernel
theorem dX4_strengths_21 : decode cX4_strengths 21 = .ok (.iload_n 1, 1) := by decide +kernel
theorem dX4_strengths_22 : decode cX4_strengths 22 = .ok (.aload_n 0, 1) := by decide +kernel
theorem dX4_strengths_23 : decode cX4_strengths 23 = .ok (.getfield 17, 3) := by decide +kernel
theorem dX4_strengths_26 : decode cX4_strengths 26 = .ok (.iload_n 1, 1) := by decide +kernel
theorem dX4_strengths_27 : decode cX4_strengths 27 = .ok (.aaload, 1) := by decide +kernel
theorem dX4_strengths_28 : decode cX4_strengths 28 = .ok (.getfield 92, 3) := by decide +kernel
theorem dX4_strengths_31 : decode cX4_strengths 31 = .ok (.iload_n 3, 1) := by decide +kernel
theorem dX4_strengths_32 : decode cX4_strengths 32 = .ok (.invokestatic 184, 3) := by decide +kernel
theorem dX4_strengths_35 : decode cX4_strengths 35 = .ok (.invokevirtual 188, 3) := by decide +kernel
theorem dX4_strengths_38 : decode cX4_strengths 38 = .ok (.ifCond .eq 9, 3) := by decide +kernel
theorem dX4_strengths_41 : decode cX4_strengths 41 = .ok (.iload_n 2, 1) := by decide +kernel
theorem dX4_strengths_42 : decode cX4_strengths 42 = .ok (.iconst 1, 1) := by decide +kernel
theorem dX4_strengths_43 : decode cX4_strengths 43 = .ok (.iload_n 3, 1) := by decide +kernel
theorem dX4_strengths_44 : decode cX4_strengths 44 = .ok (.ishl, 1) := by decide +kernel
theorem dX4_strengths_45 : decode cX4_strengths 45 = .ok (.ior, 1) := by decide +kernel
theorem dX4_strengths_46 : decode cX4_strengths 46 = .ok (.istore_n 2, 1) := by decide +kernel
theorem dX4_strengths_47 : decode cX4_strengths 47 = .ok (.iinc 3 1, 3) := by decide +kernel
theorem dX4_strengths_50 : decode cX4_strengths 50 = .ok (.goto (-36), 3) := by decide +kernel
theorem dX4_strengths_53 : decode cX4_strengths 53 = .ok (.iload_n 2, 1) := by decide +kernel
theorem dX4_strengths_54 : decode cX4_strengths 54 = .ok (.ireturn, 1) := by decide +kernel
theorem dX4_kinds_0 : decode cX4_kinds 0 = .ok (.aload_n 0, 1) := by decide +kernel
theorem dX4_kinds_1 : decode cX4_kinds 1 = .ok (.iload_n 1, 1) := by decide +kernel
theorem dX4_kinds_2 : decode cX4_kinds 2 = .ok (.invokevirtual 89, 3) := by decide +kernel
theorem dX4_kinds_5 : decode cX4_kinds 5 = .ok (.ifCond .ne 5, 3) := by decide +kernel
theorem dX4_kinds_8 : decode cX4_kinds 8 = .ok (.iconst (-1), 1) := by decide +kernel
theorem dX4_kinds_9 : decode cX4_kinds 9 = .ok (.ireturn, 1) := by decide +kernel
theorem dX4_kinds_10 : decode cX4_kinds 10 = .ok (.iconst 0, 1) := by decide +kernel
theorem dX4_kinds_11 : decode cX4_kinds 11 = .ok (.istore_n 2, 1) := by decide +kernel
theorem dX4_kinds_12 : decode cX4_kinds 12 = .ok (.iconst 0, 1) := by decide +kernel
theorem dX4_kinds_13 : decode cX4_kinds 13 = .ok (.istore_n 3, 1) := by decide +kernel
theorem dX4_kinds_14 : decode cX4_kinds 14 = .ok (.iload_n 3, 1) := by decide +kernel
theorem dX4_kinds_15 : decode cX4_kinds 15 = .ok (.iconst 3, 1) := by decide +kernel
theorem dX4_kinds_16 : decode cX4_kinds 16 = .ok (.if_icmp .ge 36, 3) := by decide +kernel
theorem dX4_kinds_19 : decode cX4_kinds 19 = .ok (.aload_n 0, 1) := by decide +kernel
theorem dX4_kinds_20 : decode cX4_kinds 20 = .ok (.iload_n 1, 1) := by decide +kernel
theorem dX4_kinds_21 : decode cX4_kinds 21 = .ok (.iload_n 3, 1) := by decide +kernel
theorem dX4_kinds_22 : decode cX4_kinds 22 = .ok (.aload_n 0, 1) := by decide +kernel
theorem dX4_kinds_23 : decode cX4_kinds 23 = .ok (.getfield 17, 3) := by decide +kernel
theorem dX4_kinds_26 : decode cX4_kinds 26 = .ok (.iload_n 1, 1) := by decide +kernel
theorem dX4_kinds_27 : decode cX4_kinds 27 = .ok (.aaload, 1) := by decide +kernel
theorem dX4_kinds_28 : decode cX4_kinds 28 = .ok (.getfield 98, 3) := by decide +kernel
theorem dX4_kinds_31 : decode cX4_kinds 31 = .ok (.invokestatic 184, 3) := by decide +kernel
theorem dX4_kinds_34 : decode cX4_kinds 34 = .ok (.invokevirtual 188, 3) := by decide +kernel
theorem dX4_kinds_37 : decode cX4_kinds 37 = .ok (.ifCond .eq 9, 3) := by decide +kernel
theorem dX4_kinds_40 : decode cX4_kinds 40 = .ok (.iload_n 2, 1) := by decide +kernel
theorem dX4_kinds_41 : decode cX4_kinds 41 = .ok (.iconst 1, 1) := by decide +kernel
theorem dX4_kinds_42 : decode cX4_kinds 42 = .ok (.iload_n 3, 1) := by decide +kernel
theorem dX4_kinds_43 : decode cX4_kinds 43 = .ok (.ishl, 1) := by decide +kernel
theorem dX4_kinds_44 : decode cX4_kinds 44 = .ok (.ior, 1) := by decide +kernel
theorem dX4_kinds_45 : decode cX4_kinds 45 = .ok (.istore_n 2, 1) := by decide +kernel
theorem dX4_kinds_46 : decode cX4_kinds 46 = .ok (.iinc 3 1, 3) := by decide +kernel
theorem dX4_kinds_49 : decode cX4_kinds 49 = .ok (.goto (-35), 3) := by decide +kernel
theorem dX4_kinds_52 : decode cX4_kinds 52 = .ok (.iload_n 2, 1) := by decide +kernel
theorem dX4_kinds_53 : decode cX4_kinds 53 = .ok (.ireturn, 1) := by decide +kernel
theorem dX4_names_0 : decode cX4_names 0 = .ok (.aload_n 0, 1) := by decide +kernel
theorem dX4_names_1 : decode cX4_names 1 = .ok (.iconst 0, 1) := by decide +kernel
theorem dX4_names_2 : decode cX4_names 2 = .ok (.putfield 58, 3) := by decide +kernel
theorem dX4_names_5 : decode cX4_names 5 = .ok (.iload_n 1, 1) := by decide +kernel
theorem dX4_names_6 : decode cX4_names 6 = .ok (.invokestatic 62, 3) := by decide +kernel
theorem dX4_names_9 : decode cX4_names 9 = .ok (.ifCond .eq 12, 3) := by decide +kernel
theorem dX4_names_12 : decode cX4_names 12 = .ok (.aload_n 0, 1) := by decide +kernel
theorem dX4_names_13 : decode cX4_names 13 = .ok (.iload 4, 2) := by decide +kernel
theorem dX4_names_15 : decode cX4_names 15 = .ok (.invokevirtual 89, 3) := by decide +kernel
theorem dX4_names_18 : decode cX4_names 18 = .ok (.ifCond .ne 5, 3) := by decide +kernel
theorem dX4_names_21 : decode cX4_names 21 = .ok (.iconst (-1), 1) := by decide +kernel
theorem dX4_names_22 : decode cX4_names 22 = .ok (.ireturn, 1) := by decide +kernel
theorem dX4_names_23 : decode cX4_names 23 = .ok (.iload_n 2, 1) := by decide +kernel
theorem dX4_names_24 : decode cX4_names 24 = .ok (.iconst 3, 1) := by decide +kernel
theorem dX4_names_25 : decode cX4_names 25 = .ok (.invokestatic 66, 3) := by decide +kernel
theorem dX4_names_28 : decode cX4_names 28 = .ok (.ifCond .eq 13, 3) := by decide +kernel
theorem dX4_names_31 : decode cX4_names 31 = .ok (.iload 5, 2) := by decide +kernel
theorem dX4_names_33 : decode cX4_names 33 = .ok (.bipush 30, 2) := by decide +kernel
theorem dX4_names_35 : decode cX4_names 35 = .ok (.invokestatic 127, 3) := by decide +kernel
theorem dX4_names_38 : decode cX4_names 38 = .ok (.ifCond .ne 6, 3) := by decide +kernel
theorem dX4_names_41 : decode cX4_names 41 = .ok (.bipush (-2), 2) := by decide +kernel
theorem dX4_names_43 : decode cX4_names 43 = .ok (.ireturn, 1) := by decide +kernel
theorem dX4_names_44 : decode cX4_names 44 = .ok (.aload_n 0, 1) := by decide +kernel
theorem dX4_names_45 : decode cX4_names 45 = .ok (.getfield 52, 3) := by decide +kernel
theorem dX4_names_48 : decode cX4_names 48 = .ok (.iload_n 1, 1) := by decide +kernel
theorem dX4_names_49 : decode cX4_names 49 = .ok (.aaload, 1) := by decide +kernel
theorem dX4_names_50 : decode cX4_names 50 = .ok (.astore 6, 2) := by decide +kernel
theorem dX4_names_52 : decode cX4_names 52 = .ok (.aload 6, 2) := by decide +kernel
theorem dX4_names_54 : decode cX4_names 54 = .ok (.iload_n 2, 1) := by decide +kernel
theorem dX4_names_55 : decode cX4_names 55 = .ok (.iload_n 3, 1) := by decide +kernel
theorem dX4_names_56 : decode cX4_names 56 = .ok (.iconst 4, 1) := by decide +kernel
theorem dX4_names_57 : decode cX4_names 57 = .ok (.invokevirtual 70, 3) := by decide +kernel
theorem dX4_names_60 : decode cX4_names 60 = .ok (.istore 7, 2) := by decide +kernel
theorem dX4_names_62 : decode cX4_names 62 = .ok (.iload 7, 2) := by decide +kernel
theorem dX4_names_64 : decode cX4_names 64 = .ok (.ifCond .eq 10, 3) := by decide +kernel
theorem dX4_names_67 : decode cX4_names 67 = .ok (.aload_n 0, 1) := by decide +kernel
theorem dX4_names_68 : decode cX4_names 68 = .ok (.iload 7, 2) := by decide +kernel
theorem dX4_names_70 : decode cX4_names 70 = .ok (.invokevirtual 74, 3) := by decide +kernel
theorem dX4_names_73 : decode cX4_names 73 = .ok (.ireturn, 1) := by decide +kernel
theorem dX4_names_74 : decode cX4_names 74 = .ok (.aload_n 0, 1) := by decide +kernel
theorem dX4_names_75 : decode cX4_names 75 = .ok (.getfield 17, 3) := by decide +kernel
theorem dX4_names_78 : decode cX4_names 78 = .ok (.iload 4, 2) := by decide +kernel
theorem dX4_names_80 : decode cX4_names 80 = .ok (.aaload, 1) := by decide +kernel
theorem dX4_names_81 : decode cX4_names 81 = .ok (.astore 8, 2) := by decide +kernel
theorem dX4_names_83 : decode cX4_names 83 = .ok (.aload_n 0, 1) := by decide +kernel
theorem dX4_names_84 : decode cX4_names 84 = .ok (.aload 8, 2) := by decide +kernel
theorem dX4_names_86 : decode cX4_names 86 = .ok (.invokevirtual 101, 3) := by decide +kernel
theorem dX4_names_89 : decode cX4_names 89 = .ok (.aload 8, 2) := by decide +kernel
theorem dX4_names_91 : decode cX4_names 91 = .ok (.getfield 105, 3) := by decide +kernel
theorem dX4_names_94 : decode cX4_names 94 = .ok (.iload 5, 2) := by decide +kernel
theorem dX4_names_96 : decode cX4_names 96 = .ok (.invokevirtual 165, 3) := by decide +kernel
theorem dX4_names_99 : decode cX4_names 99 = .ok (.istore 9, 2) := by decide +kernel
theorem dX4_names_101 : decode cX4_names 101 = .ok (.iconst 0, 1) := by decide +kernel
theorem dX4_names_102 : decode cX4_names 102 = .ok (.istore 10, 2) := by decide +kernel
theorem dX4_names_104 : decode cX4_names 104 = .ok (.iconst 0, 1) := by decide +kernel
theorem dX4_names_105 : decode cX4_names 105 = .ok (.istore 11, 2) := by decide +kernel
theorem dX4_names_107 : decode cX4_names 107 = .ok (.iload 11, 2) := by decide +kernel
theorem dX4_names_109 : decode cX4_names 109 = .ok (.iconst 4, 1) := by decide +kernel
theorem dX4_names_110 : decode cX4_names 110 = .ok (.if_icmp .ge 47, 3) := by decide +kernel
theorem dX4_names_113 : decode cX4_names 113 = .ok (.aload 8, 2) := by decide +kernel
theorem dX4_names_115 : decode cX4_names 115 = .ok (.getfield 121, 3) := by decide +kernel
theorem dX4_names_118 : decode cX4_names 118 = .ok (.iload 11, 2) := by decide +kernel
theorem dX4_names_120 : decode cX4_names 120 = .ok (.iload 9, 2) := by decide +kernel
theorem dX4_names_122 : decode cX4_names 122 = .ok (.aload_n 0, 1) := by decide +kernel
theorem dX4_names_123 : decode cX4_names 123 = .ok (.getfield 38, 3) := by decide +kernel
theorem dX4_names_126 : decode cX4_names 126 = .ok (.invokestatic 191, 3) := by decide +kernel
theorem dX4_names_129 : decode cX4_names 129 = .ok (.aload 6, 2) := by decide +kernel
theorem dX4_names_131 : decode cX4_names 131 = .ok (.iload_n 3, 1) := by decide +kernel
theorem dX4_names_132 : decode cX4_names 132 = .ok (.aload_n 0, 1) := by decide +kernel
theorem dX4_names_133 : decode cX4_names 133 = .ok (.getfield 38, 3) := by decide +kernel
theorem dX4_names_136 : decode cX4_names 136 = .ok (.invokevirtual 195, 3) := by decide +kernel
theorem dX4_names_139 : decode cX4_names 139 = .ok (.ifCond .eq 12, 3) := by decide +kernel
theorem dX4_names_142 : decode cX4_names 142 = .ok (.iload 10, 2) := by decide +kernel
theorem dX4_names_144 : decode cX4_names 144 = .ok (.iconst 1, 1) := by decide +kernel
theorem dX4_names_145 : decode cX4_names 145 = .ok (.iload 11, 2) := by decide +kernel
theorem dX4_names_147 : decode cX4_names 147 = .ok (.ishl, 1) := by decide +kernel
theorem dX4_names_148 : decode cX4_names 148 = .ok (.ior, 1) := by decide +kernel
theorem dX4_names_149 : decode cX4_names 149 = .ok (.istore 10, 2) := by decide +kernel
theorem dX4_names_151 : decode cX4_names 151 = .ok (.iinc 11 1, 3) := by decide +kernel
theorem dX4_names_154 : decode cX4_names 154 = .ok (.goto (-47), 3) := by decide +kernel
theorem dX4_names_157 : decode cX4_names 157 = .ok (.iload 10, 2) := by decide +kernel
theorem dX4_names_159 : decode cX4_names 159 = .ok (.ireturn, 1) := by decide +kernel
theorem dX4_odds_0 : decode cX4_odds 0 = .ok (.aload_n 0, 1) := by decide +kernel
theorem dX4_odds_1 : decode cX4_odds 1 = .ok (.iload_n 1, 1) := by decide +kernel
theorem dX4_odds_2 : decode cX4_odds 2 = .ok (.invokevirtual 89, 3) := by decide +kernel
theorem dX4_odds_5 : decode cX4_odds 5 = .ok (.ifCond .eq 18, 3) := by decide +kernel
theorem dX4_odds_8 : decode cX4_odds 8 = .ok (.iload_n 2, 1) := by decide +kernel
theorem dX4_odds_9 : decode cX4_odds 9 = .ok (.invokestatic 118, 3) := by decide +kernel
theorem dX4_odds_12 : decode cX4_odds 12 = .ok (.ifCond .eq 11, 3) := by decide +kernel
theorem dX4_odds_15 : decode cX4_odds 15 = .ok (.iload_n 3, 1) := by decide +kernel
theorem dX4_odds_16 : decode cX4_odds 16 = .ok (.iconst 1, 1) := by decide +kernel
theorem dX4_odds_17 : decode cX4_odds 17 = .ok (.invokestatic 127, 3) := by decide +kernel
theorem dX4_odds_20 : decode cX4_odds 20 = .ok (.ifCond .ne 7, 3) := by decide +kernel
theorem dX4_odds_23 : decode cX4_odds 23 = .ok (.ldc2_w 199, 3) := by decide +kernel
theorem dX4_odds_26 : decode cX4_odds 26 = .ok (.lreturn, 1) := by decide +kernel
theorem dX4_odds_27 : decode cX4_odds 27 = .ok (.aload_n 0, 1) := by decide +kernel
theorem dX4_odds_28 : decode cX4_odds 28 = .ok (.getfield 17, 3) := by decide +kernel
theorem dX4_odds_31 : decode cX4_odds 31 = .ok (.iload_n 1, 1) := by decide +kernel
theorem dX4_odds_32 : decode cX4_odds 32 = .ok (.aaload, 1) := by decide +kernel
theorem dX4_odds_33 : decode cX4_odds 33 = .ok (.astore 4, 2) := by decide +kernel
theorem dX4_odds_35 : decode cX4_odds 35 = .ok (.aload 4, 2) := by decide +kernel
theorem dX4_odds_37 : decode cX4_odds 37 = .ok (.invokevirtual 201, 3) := by decide +kernel
theorem dX4_odds_40 : decode cX4_odds 40 = .ok (.iload_n 2, 1) := by decide +kernel
theorem dX4_odds_41 : decode cX4_odds 41 = .ok (.if_icmp .ne 15, 3) := by decide +kernel
theorem dX4_odds_44 : decode cX4_odds 44 = .ok (.aload_n 0, 1) := by decide +kernel
theorem dX4_odds_45 : decode cX4_odds 45 = .ok (.aload 4, 2) := by decide +kernel
theorem dX4_odds_47 : decode cX4_odds 47 = .ok (.invokevirtual 101, 3) := by decide +kernel
theorem dX4_odds_50 : decode cX4_odds 50 = .ok (.invokevirtual 204, 3) := by decide +kernel
theorem dX4_odds_53 : decode cX4_odds 53 = .ok (.goto 4, 3) := by decide +kernel
theorem dX4_odds_56 : decode cX4_odds 56 = .ok (.iconst 0, 1) := by decide +kernel
theorem dX4_odds_57 : decode cX4_odds 57 = .ok (.istore 5, 2) := by decide +kernel
theorem dX4_odds_59 : decode cX4_odds 59 = .ok (.iload 5, 2) := by decide +kernel
theorem dX4_odds_61 : decode cX4_odds 61 = .ok (.aload_n 0, 1) := by decide +kernel
theorem dX4_odds_62 : decode cX4_odds 62 = .ok (.getfield 162, 3) := by decide +kernel
theorem dX4_odds_65 : decode cX4_odds 65 = .ok (.iload_n 3, 1) := by decide +kernel
theorem dX4_odds_66 : decode cX4_odds 66 = .ok (.invokestatic 207, 3) := by decide +kernel
theorem dX4_odds_69 : decode cX4_odds 69 = .ok (.lreturn, 1) := by decide +kernel
theorem dX4_premium_0 : decode cX4_premium 0 = .ok (.aload_n 0, 1) := by decide +kernel
theorem dX4_premium_1 : decode cX4_premium 1 = .ok (.iload_n 1, 1) := by decide +kernel
theorem dX4_premium_2 : decode cX4_premium 2 = .ok (.invokevirtual 89, 3) := by decide +kernel
theorem dX4_premium_5 : decode cX4_premium 5 = .ok (.ifCond .eq 11, 3) := by decide +kernel
theorem dX4_premium_8 : decode cX4_premium 8 = .ok (.iload_n 2, 1) := by decide +kernel
theorem dX4_premium_9 : decode cX4_premium 9 = .ok (.iconst 1, 1) := by decide +kernel
theorem dX4_premium_10 : decode cX4_premium 10 = .ok (.invokestatic 127, 3) := by decide +kernel
theorem dX4_premium_13 : decode cX4_premium 13 = .ok (.ifCond .ne 7, 3) := by decide +kernel
theorem dX4_premium_16 : decode cX4_premium 16 = .ok (.ldc2_w 199, 3) := by decide +kernel
theorem dX4_premium_19 : decode cX4_premium 19 = .ok (.lreturn, 1) := by decide +kernel
theorem dX4_premium_20 : decode cX4_premium 20 = .ok (.aload_n 0, 1) := by decide +kernel
theorem dX4_premium_21 : decode cX4_premium 21 = .ok (.getfield 17, 3) := by decide +kernel
theorem dX4_premium_24 : decode cX4_premium 24 = .ok (.iload_n 1, 1) := by decide +kernel
theorem dX4_premium_25 : decode cX4_premium 25 = .ok (.aaload, 1) := by decide +kernel
theorem dX4_premium_26 : decode cX4_premium 26 = .ok (.astore_n 3, 1) := by decide +kernel
theorem dX4_premium_27 : decode cX4_premium 27 = .ok (.aload_n 3, 1) := by decide +kernel
theorem dX4_premium_28 : decode cX4_premium 28 = .ok (.invokevirtual 201, 3) := by decide +kernel
theorem dX4_premium_31 : decode cX4_premium 31 = .ok (.istore 4, 2) := by decide +kernel
theorem dX4_premium_33 : decode cX4_premium 33 = .ok (.iload 4, 2) := by decide +kernel
theorem dX4_premium_35 : decode cX4_premium 35 = .ok (.bipush (-9), 2) := by decide +kernel
theorem dX4_premium_37 : decode cX4_premium 37 = .ok (.if_icmp .ne 7, 3) := by decide +kernel
theorem dX4_premium_40 : decode cX4_premium 40 = .ok (.iconst 0, 1) := by decide +kernel
theorem dX4_premium_41 : decode cX4_premium 41 = .ok (.goto 17, 3) := by decide +kernel
theorem dX4_premium_44 : decode cX4_premium 44 = .ok (.aload_n 0, 1) := by decide +kernel
theorem dX4_premium_45 : decode cX4_premium 45 = .ok (.aload_n 3, 1) := by decide +kernel
theorem dX4_premium_46 : decode cX4_premium 46 = .ok (.invokevirtual 101, 3) := by decide +kernel
theorem dX4_premium_49 : decode cX4_premium 49 = .ok (.invokevirtual 204, 3) := by decide +kernel
theorem dX4_premium_52 : decode cX4_premium 52 = .ok (.iload 4, 2) := by decide +kernel
theorem dX4_premium_54 : decode cX4_premium 54 = .ok (.invokestatic 211, 3) := by decide +kernel
theorem dX4_premium_57 : decode cX4_premium 57 = .ok (.imul, 1) := by decide +kernel
theorem dX4_premium_58 : decode cX4_premium 58 = .ok (.istore 5, 2) := by decide +kernel
theorem dX4_premium_60 : decode cX4_premium 60 = .ok (.iload 5, 2) := by decide +kernel
theorem dX4_premium_62 : decode cX4_premium 62 = .ok (.aload_n 0, 1) := by decide +kernel
theorem dX4_premium_63 : decode cX4_premium 63 = .ok (.getfield 162, 3) := by decide +kernel
theorem dX4_premium_66 : decode cX4_premium 66 = .ok (.iload_n 2, 1) := by decide +kernel
theorem dX4_premium_67 : decode cX4_premium 67 = .ok (.invokestatic 207, 3) := by decide +kernel
theorem dX4_premium_70 : decode cX4_premium 70 = .ok (.lreturn, 1) := by decide +kernel
theorem dX4_sheet_0 : decode cX4_sheet 0 = .ok (.aload_n 0, 1) := by decide +kernel
theorem dX4_sheet_1 : decode cX4_sheet 1 = .ok (.iconst 0, 1) := by decide +kernel
theorem dX4_sheet_2 : decode cX4_sheet 2 = .ok (.putfield 58, 3) := by decide +kernel
theorem dX4_sheet_5 : decode cX4_sheet 5 = .ok (.iload_n 1, 1) := by decide +kernel
theorem dX4_sheet_6 : decode cX4_sheet 6 = .ok (.invokestatic 62, 3) := by decide +kernel
theorem dX4_sheet_9 : decode cX4_sheet 9 = .ok (.ifCond .ne 5, 3) := by decide +kernel
theorem dX4_sheet_12 : decode cX4_sheet 12 = .ok (.iconst (-1), 1) := by decide +kernel
theorem dX4_sheet_13 : decode cX4_sheet 13 = .ok (.ireturn, 1) := by decide +kernel
theorem dX4_sheet_14 : decode cX4_sheet 14 = .ok (.iload_n 2, 1) := by decide +kernel
theorem dX4_sheet_15 : decode cX4_sheet 15 = .ok (.iconst 3, 1) := by decide +kernel
theorem dX4_sheet_16 : decode cX4_sheet 16 = .ok (.invokestatic 66, 3) := by decide +kernel
theorem dX4_sheet_19 : decode cX4_sheet 19 = .ok (.ifCond .eq 9, 3) := by decide +kernel
theorem dX4_sheet_22 : decode cX4_sheet 22 = .ok (.iload_n 3, 1) := by decide +kernel
theorem dX4_sheet_23 : decode cX4_sheet 23 = .ok (.bipush 60, 2) := by decide +kernel
theorem dX4_sheet_25 : decode cX4_sheet 25 = .ok (.if_icmp .le 6, 3) := by decide +kernel
theorem dX4_sheet_28 : decode cX4_sheet 28 = .ok (.bipush (-2), 2) := by decide +kernel
theorem dX4_sheet_30 : decode cX4_sheet 30 = .ok (.ireturn, 1) := by decide +kernel
theorem dX4_sheet_31 : decode cX4_sheet 31 = .ok (.iload_n 3, 1) := by decide +kernel
theorem dX4_sheet_32 : decode cX4_sheet 32 = .ok (.ifCond .ge 9, 3) := by decide +kernel
theorem dX4_sheet_35 : decode cX4_sheet 35 = .ok (.aload_n 0, 1) := by decide +kernel
theorem dX4_sheet_36 : decode cX4_sheet 36 = .ok (.iconst 4, 1) := by decide +kernel
theorem dX4_sheet_37 : decode cX4_sheet 37 = .ok (.invokevirtual 74, 3) := by decide +kernel
theorem dX4_sheet_40 : decode cX4_sheet 40 = .ok (.ireturn, 1) := by decide +kernel
theorem dX4_sheet_41 : decode cX4_sheet 41 = .ok (.aload_n 0, 1) := by decide +kernel
theorem dX4_sheet_42 : decode cX4_sheet 42 = .ok (.getfield 52, 3) := by decide +kernel
theorem dX4_sheet_45 : decode cX4_sheet 45 = .ok (.iload_n 1, 1) := by decide +kernel
theorem dX4_sheet_46 : decode cX4_sheet 46 = .ok (.aaload, 1) := by decide +kernel
theorem dX4_sheet_47 : decode cX4_sheet 47 = .ok (.iload_n 2, 1) := by decide +kernel
theorem dX4_sheet_48 : decode cX4_sheet 48 = .ok (.iload_n 3, 1) := by decide +kernel
theorem dX4_sheet_49 : decode cX4_sheet 49 = .ok (.invokevirtual 214, 3) := by decide +kernel
theorem dX4_sheet_52 : decode cX4_sheet 52 = .ok (.iconst 1, 1) := by decide +kernel
theorem dX4_sheet_53 : decode cX4_sheet 53 = .ok (.ireturn, 1) := by decide +kernel
theorem dX4_lose_0 : decode cX4_lose 0 = .ok (.iload_n 1, 1) := by decide +kernel
theorem dX4_lose_1 : decode cX4_lose 1 = .ok (.invokestatic 62, 3) := by decide +kernel
theorem dX4_lose_4 : decode cX4_lose 4 = .ok (.ifCond .ne 5, 3) := by decide +kernel
theorem dX4_lose_7 : decode cX4_lose 7 = .ok (.iconst (-1), 1) := by decide +kernel
theorem dX4_lose_8 : decode cX4_lose 8 = .ok (.ireturn, 1) := by decide +kernel
theorem dX4_lose_9 : decode cX4_lose 9 = .ok (.aload_n 0, 1) := by decide +kernel
theorem dX4_lose_10 : decode cX4_lose 10 = .ok (.getfield 52, 3) := by decide +kernel
theorem dX4_lose_13 : decode cX4_lose 13 = .ok (.iload_n 1, 1) := by decide +kernel
theorem dX4_lose_14 : decode cX4_lose 14 = .ok (.aaload, 1) := by decide +kernel
theorem dX4_lose_15 : decode cX4_lose 15 = .ok (.getfield 218, 3) := by decide +kernel
theorem dX4_lose_18 : decode cX4_lose 18 = .ok (.ifCond .eq 7, 3) := by decide +kernel
theorem dX4_lose_21 : decode cX4_lose 21 = .ok (.iconst 1, 1) := by decide +kernel
theorem dX4_lose_22 : decode cX4_lose 22 = .ok (.goto 4, 3) := by decide +kernel
theorem dX4_lose_25 : decode cX4_lose 25 = .ok (.iconst 0, 1) := by decide +kernel
theorem dX4_lose_26 : decode cX4_lose 26 = .ok (.istore_n 2, 1) := by decide +kernel
theorem dX4_lose_27 : decode cX4_lose 27 = .ok (.aload_n 0, 1) := by decide +kernel
theorem dX4_lose_28 : decode cX4_lose 28 = .ok (.getfield 52, 3) := by decide +kernel
theorem dX4_lose_31 : decode cX4_lose 31 = .ok (.iload_n 1, 1) := by decide +kernel
theorem dX4_lose_32 : decode cX4_lose 32 = .ok (.aaload, 1) := by decide +kernel
theorem dX4_lose_33 : decode cX4_lose 33 = .ok (.iconst 0, 1) := by decide +kernel
theorem dX4_lose_34 : decode cX4_lose 34 = .ok (.putfield 218, 3) := by decide +kernel
theorem dX4_lose_37 : decode cX4_lose 37 = .ok (.iload_n 2, 1) := by decide +kernel
theorem dX4_lose_38 : decode cX4_lose 38 = .ok (.ireturn, 1) := by decide +kernel
theorem dX4_put_0 : decode cX4_put 0 = .ok (.aload_n 0, 1) := by decide +kernel
theorem dX4_put_1 : decode cX4_put 1 = .ok (.iconst 0, 1) := by decide +kernel
theorem dX4_put_2 : decode cX4_put 2 = .ok (.putfield 58, 3) := by decide +kernel
theorem dX4_put_5 : decode cX4_put 5 = .ok (.iload_n 1, 1) := by decide +kernel
theorem dX4_put_6 : decode cX4_put 6 = .ok (.invokestatic 62, 3) := by decide +kernel
theorem dX4_put_9 : decode cX4_put 9 = .ok (.ifCond .ne 5, 3) := by decide +kernel
theorem dX4_put_12 : decode cX4_put 12 = .ok (.iconst (-1), 1) := by decide +kernel
theorem dX4_put_13 : decode cX4_put 13 = .ok (.ireturn, 1) := by decide +kernel
theorem dX4_put_14 : decode cX4_put 14 = .ok (.aload_n 0, 1) := by decide +kernel
theorem dX4_put_15 : decode cX4_put 15 = .ok (.getfield 52, 3) := by decide +kernel
theorem dX4_put_18 : decode cX4_put 18 = .ok (.iload_n 1, 1) := by decide +kernel
theorem dX4_put_19 : decode cX4_put 19 = .ok (.aaload, 1) := by decide +kernel
theorem dX4_put_20 : decode cX4_put 20 = .ok (.astore 4, 2) := by decide +kernel
theorem dX4_put_22 : decode cX4_put 22 = .ok (.aload 4, 2) := by decide +kernel
theorem dX4_put_24 : decode cX4_put 24 = .ok (.getfield 218, 3) := by decide +kernel
theorem dX4_put_27 : decode cX4_put 27 = .ok (.ifCond .ne 9, 3) := by decide +kernel
theorem dX4_put_30 : decode cX4_put 30 = .ok (.aload_n 0, 1) := by decide +kernel
theorem dX4_put_31 : decode cX4_put 31 = .ok (.iconst 1, 1) := by decide +kernel
theorem dX4_put_32 : decode cX4_put 32 = .ok (.invokevirtual 74, 3) := by decide +kernel
theorem dX4_put_35 : decode cX4_put 35 = .ok (.ireturn, 1) := by decide +kernel
theorem dX4_put_36 : decode cX4_put 36 = .ok (.aload 4, 2) := by decide +kernel
theorem dX4_put_38 : decode cX4_put 38 = .ok (.iload_n 2, 1) := by decide +kernel
theorem dX4_put_39 : decode cX4_put 39 = .ok (.iconst 1, 1) := by decide +kernel
theorem dX4_put_40 : decode cX4_put 40 = .ok (.invokevirtual 222, 3) := by decide +kernel
theorem dX4_put_43 : decode cX4_put 43 = .ok (.ifCond .ne 9, 3) := by decide +kernel
theorem dX4_put_46 : decode cX4_put 46 = .ok (.aload_n 0, 1) := by decide +kernel
theorem dX4_put_47 : decode cX4_put 47 = .ok (.iconst 3, 1) := by decide +kernel
theorem dX4_put_48 : decode cX4_put 48 = .ok (.invokevirtual 74, 3) := by decide +kernel
theorem dX4_put_51 : decode cX4_put 51 = .ok (.ireturn, 1) := by decide +kernel
theorem dX4_put_52 : decode cX4_put 52 = .ok (.aload 4, 2) := by decide +kernel
theorem dX4_put_54 : decode cX4_put 54 = .ok (.getfield 225, 3) := by decide +kernel
theorem dX4_put_57 : decode cX4_put 57 = .ok (.iload_n 2, 1) := by decide +kernel
theorem dX4_put_58 : decode cX4_put 58 = .ok (.aload 4, 2) := by decide +kernel
theorem dX4_put_60 : decode cX4_put 60 = .ok (.getfield 228, 3) := by decide +kernel
theorem dX4_put_63 : decode cX4_put 63 = .ok (.iload_n 3, 1) := by decide +kernel
theorem dX4_put_64 : decode cX4_put 64 = .ok (.invokestatic 231, 3) := by decide +kernel
theorem dX4_put_67 : decode cX4_put 67 = .ok (.iastore, 1) := by decide +kernel
theorem dX4_put_68 : decode cX4_put 68 = .ok (.iconst 1, 1) := by decide +kernel
theorem dX4_put_69 : decode cX4_put 69 = .ok (.ireturn, 1) := by decide +kernel
theorem dX4_cell_0 : decode cX4_cell 0 = .ok (.aload_n 0, 1) := by decide +kernel
theorem dX4_cell_1 : decode cX4_cell 1 = .ok (.iconst 0, 1) := by decide +kernel
theorem dX4_cell_2 : decode cX4_cell 2 = .ok (.putfield 58, 3) := by decide +kernel
theorem dX4_cell_5 : decode cX4_cell 5 = .ok (.iload_n 1, 1) := by decide +kernel
theorem dX4_cell_6 : decode cX4_cell 6 = .ok (.invokestatic 62, 3) := by decide +kernel
theorem dX4_cell_9 : decode cX4_cell 9 = .ok (.ifCond .eq 11, 3) := by decide +kernel
theorem dX4_cell_12 : decode cX4_cell 12 = .ok (.iload_n 3, 1) := by decide +kernel
theorem dX4_cell_13 : decode cX4_cell 13 = .ok (.iconst 3, 1) := by decide +kernel
theorem dX4_cell_14 : decode cX4_cell 14 = .ok (.invokestatic 66, 3) := by decide +kernel
theorem dX4_cell_17 : decode cX4_cell 17 = .ok (.ifCond .ne 7, 3) := by decide +kernel
theorem dX4_cell_20 : decode cX4_cell 20 = .ok (.ldc2_w 199, 3) := by decide +kernel
theorem dX4_cell_23 : decode cX4_cell 23 = .ok (.lreturn, 1) := by decide +kernel
theorem dX4_cell_24 : decode cX4_cell 24 = .ok (.aload_n 0, 1) := by decide +kernel
theorem dX4_cell_25 : decode cX4_cell 25 = .ok (.getfield 52, 3) := by decide +kernel
theorem dX4_cell_28 : decode cX4_cell 28 = .ok (.iload_n 1, 1) := by decide +kernel
theorem dX4_cell_29 : decode cX4_cell 29 = .ok (.aaload, 1) := by decide +kernel
theorem dX4_cell_30 : decode cX4_cell 30 = .ok (.astore 4, 2) := by decide +kernel
theorem dX4_cell_32 : decode cX4_cell 32 = .ok (.aload_n 0, 1) := by decide +kernel
theorem dX4_cell_33 : decode cX4_cell 33 = .ok (.aload 4, 2) := by decide +kernel
theorem dX4_cell_35 : decode cX4_cell 35 = .ok (.iload_n 3, 1) := by decide +kernel
theorem dX4_cell_36 : decode cX4_cell 36 = .ok (.iload_n 2, 1) := by decide +kernel
theorem dX4_cell_37 : decode cX4_cell 37 = .ok (.iconst 1, 1) := by decide +kernel
theorem dX4_cell_38 : decode cX4_cell 38 = .ok (.invokevirtual 70, 3) := by decide +kernel
theorem dX4_cell_41 : decode cX4_cell 41 = .ok (.putfield 58, 3) := by decide +kernel
theorem dX4_cell_44 : decode cX4_cell 44 = .ok (.aload_n 0, 1) := by decide +kernel
theorem dX4_cell_45 : decode cX4_cell 45 = .ok (.getfield 58, 3) := by decide +kernel
theorem dX4_cell_48 : decode cX4_cell 48 = .ok (.ifCond .ne 14, 3) := by decide +kernel
theorem dX4_cell_51 : decode cX4_cell 51 = .ok (.aload 4, 2) := by decide +kernel
theorem dX4_cell_53 : decode cX4_cell 53 = .ok (.getfield 225, 3) := by decide +kernel
theorem dX4_cell_56 : decode cX4_cell 56 = .ok (.iload_n 2, 1) := by decide +kernel
theorem dX4_cell_57 : decode cX4_cell 57 = .ok (.iaload, 1) := by decide +kernel
theorem dX4_cell_58 : decode cX4_cell 58 = .ok (.i2l, 1) := by decide +kernel
theorem dX4_cell_59 : decode cX4_cell 59 = .ok (.goto 6, 3) := by decide +kernel
theorem dX4_cell_62 : decode cX4_cell 62 = .ok (.ldc2_w 199, 3) := by decide +kernel
theorem dX4_cell_65 : decode cX4_cell 65 = .ok (.lreturn, 1) := by decide +kernel
theorem dX4_copy_0 : decode cX4_copy 0 = .ok (.aload_n 0, 1) := by decide +kernel
theorem dX4_copy_1 : decode cX4_copy 1 = .ok (.iconst 0, 1) := by decide +kernel
theorem dX4_copy_2 : decode cX4_copy 2 = .ok (.putfield 58, 3) := by decide +kernel
theorem dX4_copy_5 : decode cX4_copy 5 = .ok (.iload_n 1, 1) := by decide +kernel
theorem dX4_copy_6 : decode cX4_copy 6 = .ok (.invokestatic 62, 3) := by decide +kernel
theorem dX4_copy_9 : decode cX4_copy 9 = .ok (.ifCond .eq 10, 3) := by decide +kernel
theorem dX4_copy_12 : decode cX4_copy 12 = .ok (.iload_n 3, 1) := by decide +kernel
theorem dX4_copy_13 : decode cX4_copy 13 = .ok (.invokestatic 62, 3) := by decide +kernel
theorem dX4_copy_16 : decode cX4_copy 16 = .ok (.ifCond .ne 5, 3) := by decide +kernel
theorem dX4_copy_19 : decode cX4_copy 19 = .ok (.iconst (-1), 1) := by decide +kernel
theorem dX4_copy_20 : decode cX4_copy 20 = .ok (.ireturn, 1) := by decide +kernel
theorem dX4_copy_21 : decode cX4_copy 21 = .ok (.aload_n 0, 1) := by decide +kernel
theorem dX4_copy_22 : decode cX4_copy 22 = .ok (.getfield 52, 3) := by decide +kernel
theorem dX4_copy_25 : decode cX4_copy 25 = .ok (.iload_n 1, 1) := by decide +kernel
theorem dX4_copy_26 : decode cX4_copy 26 = .ok (.aaload, 1) := by decide +kernel
theorem dX4_copy_27 : decode cX4_copy 27 = .ok (.astore 6, 2) := by decide +kernel
theorem dX4_copy_29 : decode cX4_copy 29 = .ok (.aload_n 0, 1) := by decide +kernel
theorem dX4_copy_30 : decode cX4_copy 30 = .ok (.getfield 52, 3) := by decide +kernel
theorem dX4_copy_33 : decode cX4_copy 33 = .ok (.iload_n 3, 1) := by decide +kernel
theorem dX4_copy_34 : decode cX4_copy 34 = .ok (.aaload, 1) := by decide +kernel
theorem dX4_copy_35 : decode cX4_copy 35 = .ok (.astore 7, 2) := by decide +kernel
theorem dX4_copy_37 : decode cX4_copy 37 = .ok (.aload 6, 2) := by decide +kernel
theorem dX4_copy_39 : decode cX4_copy 39 = .ok (.getfield 218, 3) := by decide +kernel
theorem dX4_copy_42 : decode cX4_copy 42 = .ok (.ifCond .eq 11, 3) := by decide +kernel
theorem dX4_copy_45 : decode cX4_copy 45 = .ok (.aload 7, 2) := by decide +kernel
theorem dX4_copy_47 : decode cX4_copy 47 = .ok (.getfield 218, 3) := by decide +kernel
theorem dX4_copy_50 : decode cX4_copy 50 = .ok (.ifCond .ne 9, 3) := by decide +kernel
theorem dX4_copy_53 : decode cX4_copy 53 = .ok (.aload_n 0, 1) := by decide +kernel
theorem dX4_copy_54 : decode cX4_copy 54 = .ok (.iconst 1, 1) := by decide +kernel
theorem dX4_copy_55 : decode cX4_copy 55 = .ok (.invokevirtual 74, 3) := by decide +kernel
theorem dX4_copy_58 : decode cX4_copy 58 = .ok (.ireturn, 1) := by decide +kernel
theorem dX4_copy_59 : decode cX4_copy 59 = .ok (.aload 6, 2) := by decide +kernel
theorem dX4_copy_61 : decode cX4_copy 61 = .ok (.getfield 228, 3) := by decide +kernel
theorem dX4_copy_64 : decode cX4_copy 64 = .ok (.aload 7, 2) := by decide +kernel
theorem dX4_copy_66 : decode cX4_copy 66 = .ok (.getfield 228, 3) := by decide +kernel
theorem dX4_copy_69 : decode cX4_copy 69 = .ok (.if_icmp .eq 9, 3) := by decide +kernel
theorem dX4_copy_72 : decode cX4_copy 72 = .ok (.aload_n 0, 1) := by decide +kernel
theorem dX4_copy_73 : decode cX4_copy 73 = .ok (.iconst 2, 1) := by decide +kernel
theorem dX4_copy_74 : decode cX4_copy 74 = .ok (.invokevirtual 74, 3) := by decide +kernel
theorem dX4_copy_77 : decode cX4_copy 77 = .ok (.ireturn, 1) := by decide +kernel
theorem dX4_copy_78 : decode cX4_copy 78 = .ok (.iload 5, 2) := by decide +kernel
theorem dX4_copy_80 : decode cX4_copy 80 = .ok (.ifCond .lt 26, 3) := by decide +kernel
theorem dX4_copy_83 : decode cX4_copy 83 = .ok (.aload 6, 2) := by decide +kernel
theorem dX4_copy_85 : decode cX4_copy 85 = .ok (.iload_n 2, 1) := by decide +kernel
theorem dX4_copy_86 : decode cX4_copy 86 = .ok (.iload 5, 2) := by decide +kernel
theorem dX4_copy_88 : decode cX4_copy 88 = .ok (.invokevirtual 222, 3) := by decide +kernel
theorem dX4_copy_91 : decode cX4_copy 91 = .ok (.ifCond .eq 15, 3) := by decide +kernel
theorem dX4_copy_94 : decode cX4_copy 94 = .ok (.aload 7, 2) := by decide +kernel
theorem dX4_copy_96 : decode cX4_copy 96 = .ok (.iload 4, 2) := by decide +kernel
theorem dX4_copy_98 : decode cX4_copy 98 = .ok (.iload 5, 2) := by decide +kernel
theorem dX4_copy_100 : decode cX4_copy 100 = .ok (.invokevirtual 222, 3) := by decide +kernel
theorem dX4_copy_103 : decode cX4_copy 103 = .ok (.ifCond .ne 9, 3) := by decide +kernel
theorem dX4_copy_106 : decode cX4_copy 106 = .ok (.aload_n 0, 1) := by decide +kernel
theorem dX4_copy_107 : decode cX4_copy 107 = .ok (.iconst 3, 1) := by decide +kernel
theorem dX4_copy_108 : decode cX4_copy 108 = .ok (.invokevirtual 74, 3) := by decide +kernel
theorem dX4_copy_111 : decode cX4_copy 111 = .ok (.ireturn, 1) := by decide +kernel
theorem dX4_copy_112 : decode cX4_copy 112 = .ok (.aload 6, 2) := by decide +kernel
theorem dX4_copy_114 : decode cX4_copy 114 = .ok (.getfield 225, 3) := by decide +kernel
theorem dX4_copy_117 : decode cX4_copy 117 = .ok (.iload_n 2, 1) := by decide +kernel
theorem dX4_copy_118 : decode cX4_copy 118 = .ok (.aload 7, 2) := by decide +kernel
theorem dX4_copy_120 : decode cX4_copy 120 = .ok (.getfield 225, 3) := by decide +kernel
theorem dX4_copy_123 : decode cX4_copy 123 = .ok (.iload 4, 2) := by decide +kernel
theorem dX4_copy_125 : decode cX4_copy 125 = .ok (.iload 5, 2) := by decide +kernel
theorem dX4_copy_127 : decode cX4_copy 127 = .ok (.invokestatic 234, 3) := by decide +kernel
theorem dX4_copy_130 : decode cX4_copy 130 = .ok (.iload 5, 2) := by decide +kernel
theorem dX4_copy_132 : decode cX4_copy 132 = .ok (.ireturn, 1) := by decide +kernel
theorem dX4_tell_0 : decode cX4_tell 0 = .ok (.aload_n 0, 1) := by decide +kernel
theorem dX4_tell_1 : decode cX4_tell 1 = .ok (.iload_n 1, 1) := by decide +kernel
theorem dX4_tell_2 : decode cX4_tell 2 = .ok (.invokevirtual 89, 3) := by decide +kernel
theorem dX4_tell_5 : decode cX4_tell 5 = .ok (.ifCond .ne 5, 3) := by decide +kernel
theorem dX4_tell_8 : decode cX4_tell 8 = .ok (.iconst (-1), 1) := by decide +kernel
theorem dX4_tell_9 : decode cX4_tell 9 = .ok (.ireturn, 1) := by decide +kernel
theorem dX4_tell_10 : decode cX4_tell 10 = .ok (.aload_n 0, 1) := by decide +kernel
theorem dX4_tell_11 : decode cX4_tell 11 = .ok (.getfield 17, 3) := by decide +kernel
theorem dX4_tell_14 : decode cX4_tell 14 = .ok (.iload_n 1, 1) := by decide +kernel
theorem dX4_tell_15 : decode cX4_tell 15 = .ok (.aaload, 1) := by decide +kernel
theorem dX4_tell_16 : decode cX4_tell 16 = .ok (.astore_n 2, 1) := by decide +kernel
theorem dX4_tell_17 : decode cX4_tell 17 = .ok (.aload_n 2, 1) := by decide +kernel
theorem dX4_tell_18 : decode cX4_tell 18 = .ok (.getfield 92, 3) := by decide +kernel
theorem dX4_tell_21 : decode cX4_tell 21 = .ok (.lookupswitch 39 #[(1, 33), (2, 27)], 27) := by decide +kernel
theorem dX4_tell_48 : decode cX4_tell 48 = .ok (.aload_n 0, 1) := by decide +kernel
theorem dX4_tell_49 : decode cX4_tell 49 = .ok (.aload_n 2, 1) := by decide +kernel
theorem dX4_tell_50 : decode cX4_tell 50 = .ok (.invokevirtual 240, 3) := by decide +kernel
theorem dX4_tell_53 : decode cX4_tell 53 = .ok (.ireturn, 1) := by decide +kernel
theorem dX4_tell_54 : decode cX4_tell 54 = .ok (.aload_n 0, 1) := by decide +kernel
theorem dX4_tell_55 : decode cX4_tell 55 = .ok (.aload_n 2, 1) := by decide +kernel
theorem dX4_tell_56 : decode cX4_tell 56 = .ok (.invokevirtual 243, 3) := by decide +kernel
theorem dX4_tell_59 : decode cX4_tell 59 = .ok (.ireturn, 1) := by decide +kernel
theorem dX4_tell_60 : decode cX4_tell 60 = .ok (.aload_n 0, 1) := by decide +kernel
theorem dX4_tell_61 : decode cX4_tell 61 = .ok (.aload_n 2, 1) := by decide +kernel
theorem dX4_tell_62 : decode cX4_tell 62 = .ok (.invokevirtual 246, 3) := by decide +kernel
theorem dX4_tell_65 : decode cX4_tell 65 = .ok (.ireturn, 1) := by decide +kernel
theorem dX4_hail_0 : decode cX4_hail 0 = .ok (.aload_n 0, 1) := by decide +kernel
theorem dX4_hail_1 : decode cX4_hail 1 = .ok (.iload_n 1, 1) := by decide +kernel
theorem dX4_hail_2 : decode cX4_hail 2 = .ok (.invokevirtual 89, 3) := by decide +kernel
theorem dX4_hail_5 : decode cX4_hail 5 = .ok (.ifCond .ne 5, 3) := by decide +kernel
theorem dX4_hail_8 : decode cX4_hail 8 = .ok (.iconst (-1), 1) := by decide +kernel
theorem dX4_hail_9 : decode cX4_hail 9 = .ok (.ireturn, 1) := by decide +kernel
theorem dX4_hail_10 : decode cX4_hail 10 = .ok (.aload_n 0, 1) := by decide +kernel
theorem dX4_hail_11 : decode cX4_hail 11 = .ok (.getfield 17, 3) := by decide +kernel
theorem dX4_hail_14 : decode cX4_hail 14 = .ok (.iload_n 1, 1) := by decide +kernel
theorem dX4_hail_15 : decode cX4_hail 15 = .ok (.aaload, 1) := by decide +kernel
theorem dX4_hail_16 : decode cX4_hail 16 = .ok (.getfield 92, 3) := by decide +kernel
theorem dX4_hail_19 : decode cX4_hail 19 = .ok (.iconst 2, 1) := by decide +kernel
theorem dX4_hail_20 : decode cX4_hail 20 = .ok (.if_icmp .ne 10, 3) := by decide +kernel
theorem dX4_hail_23 : decode cX4_hail 23 = .ok (.aload_n 0, 1) := by decide +kernel
theorem dX4_hail_24 : decode cX4_hail 24 = .ok (.invokevirtual 249, 3) := by decide +kernel
theorem dX4_hail_27 : decode cX4_hail 27 = .ok (.goto 13, 3) := by decide +kernel
theorem dX4_hail_30 : decode cX4_hail 30 = .ok (.aload_n 0, 1) := by decide +kernel
theorem dX4_hail_31 : decode cX4_hail 31 = .ok (.aload_n 0, 1) := by decide +kernel
theorem dX4_hail_32 : decode cX4_hail 32 = .ok (.getfield 17, 3) := by decide +kernel
theorem dX4_hail_35 : decode cX4_hail 35 = .ok (.iload_n 1, 1) := by decide +kernel
theorem dX4_hail_36 : decode cX4_hail 36 = .ok (.aaload, 1) := by decide +kernel
theorem dX4_hail_37 : decode cX4_hail 37 = .ok (.invokevirtual 252, 3) := by decide +kernel
theorem dX4_hail_40 : decode cX4_hail 40 = .ok (.ireturn, 1) := by decide +kernel
theorem dX4_as_0 : decode cX4_as 0 = .ok (.aload_n 0, 1) := by decide +kernel
theorem dX4_as_1 : decode cX4_as 1 = .ok (.iconst 0, 1) := by decide +kernel
theorem dX4_as_2 : decode cX4_as 2 = .ok (.putfield 58, 3) := by decide +kernel
theorem dX4_as_5 : decode cX4_as 5 = .ok (.aload_n 0, 1) := by decide +kernel
theorem dX4_as_6 : decode cX4_as 6 = .ok (.iload_n 1, 1) := by decide +kernel
theorem dX4_as_7 : decode cX4_as 7 = .ok (.invokevirtual 89, 3) := by decide +kernel
theorem dX4_as_10 : decode cX4_as 10 = .ok (.ifCond .ne 5, 3) := by decide +kernel
theorem dX4_as_13 : decode cX4_as 13 = .ok (.iconst (-1), 1) := by decide +kernel
theorem dX4_as_14 : decode cX4_as 14 = .ok (.ireturn, 1) := by decide +kernel
theorem dX4_as_15 : decode cX4_as 15 = .ok (.iload_n 2, 1) := by decide +kernel
theorem dX4_as_16 : decode cX4_as 16 = .ok (.iconst 3, 1) := by decide +kernel
theorem dX4_as_17 : decode cX4_as 17 = .ok (.invokestatic 66, 3) := by decide +kernel
theorem dX4_as_20 : decode cX4_as 20 = .ok (.ifCond .ne 6, 3) := by decide +kernel
theorem dX4_as_23 : decode cX4_as 23 = .ok (.bipush (-2), 2) := by decide +kernel
theorem dX4_as_25 : decode cX4_as 25 = .ok (.ireturn, 1) := by decide +kernel
theorem dX4_as_26 : decode cX4_as 26 = .ok (.iload_n 2, 1) := by decide +kernel
theorem dX4_as_27 : decode cX4_as 27 = .ok (.aload_n 0, 1) := by decide +kernel
theorem dX4_as_28 : decode cX4_as 28 = .ok (.getfield 17, 3) := by decide +kernel
theorem dX4_as_31 : decode cX4_as 31 = .ok (.iload_n 1, 1) := by decide +kernel
theorem dX4_as_32 : decode cX4_as 32 = .ok (.aaload, 1) := by decide +kernel
theorem dX4_as_33 : decode cX4_as 33 = .ok (.getfield 92, 3) := by decide +kernel
theorem dX4_as_36 : decode cX4_as 36 = .ok (.if_icmp .le 11, 3) := by decide +kernel
theorem dX4_as_39 : decode cX4_as 39 = .ok (.aload_n 0, 1) := by decide +kernel
theorem dX4_as_40 : decode cX4_as 40 = .ok (.iconst 2, 1) := by decide +kernel
theorem dX4_as_41 : decode cX4_as 41 = .ok (.invokevirtual 74, 3) := by decide +kernel
theorem dX4_as_44 : decode cX4_as 44 = .ok (.goto 4, 3) := by decide +kernel
theorem dX4_as_47 : decode cX4_as 47 = .ok (.iconst 1, 1) := by decide +kernel
theorem dX4_as_48 : decode cX4_as 48 = .ok (.ireturn, 1) := by decide +kernel
theorem dX4_trace_0 : decode cX4_trace 0 = .ok (.aload_n 0, 1) := by decide +kernel
theorem dX4_trace_1 : decode cX4_trace 1 = .ok (.getfield 255, 3) := by decide +kernel
theorem dX4_trace_4 : decode cX4_trace 4 = .ok (.ireturn, 1) := by decide +kernel
theorem dX4_fault_0 : decode cX4_fault 0 = .ok (.aload_n 0, 1) := by decide +kernel
theorem dX4_fault_1 : decode cX4_fault 1 = .ok (.getfield 58, 3) := by decide +kernel
theorem dX4_fault_4 : decode cX4_fault 4 = .ok (.ireturn, 1) := by decide +kernel
theorem dX4_many_0 : decode cX4_many 0 = .ok (.iload_n 1, 1) := by decide +kernel
theorem dX4_many_1 : decode cX4_many 1 = .ok (.tableswitch 67 0 4 #[35, 40, 45, 50, 62], 35) := by decide +kernel
theorem dX4_many_36 : decode cX4_many 36 = .ok (.aload_n 0, 1) := by decide +kernel
theorem dX4_many_37 : decode cX4_many 37 = .ok (.getfield 86, 3) := by decide +kernel
theorem dX4_many_40 : decode cX4_many 40 = .ok (.ireturn, 1) := by decide +kernel
theorem dX4_many_41 : decode cX4_many 41 = .ok (.aload_n 0, 1) := by decide +kernel
theorem dX4_many_42 : decode cX4_many 42 = .ok (.getfield 162, 3) := by decide +kernel
theorem dX4_many_45 : decode cX4_many 45 = .ok (.ireturn, 1) := by decide +kernel
theorem dX4_many_46 : decode cX4_many 46 = .ok (.aload_n 0, 1) := by decide +kernel
theorem dX4_many_47 : decode cX4_many 47 = .ok (.getfield 137, 3) := by decide +kernel
theorem dX4_many_50 : decode cX4_many 50 = .ok (.ireturn, 1) := by decide +kernel
theorem dX4_many_51 : decode cX4_many 51 = .ok (.aload_n 0, 1) := by decide +kernel
theorem dX4_many_52 : decode cX4_many 52 = .ok (.aload_n 0, 1) := by decide +kernel
theorem dX4_many_53 : decode cX4_many 53 = .ok (.getfield 17, 3) := by decide +kernel
theorem dX4_many_56 : decode cX4_many 56 = .ok (.invokevirtual 258, 3) := by decide +kernel
theorem dX4_many_59 : decode cX4_many 59 = .ok (.invokestatic 262, 3) := by decide +kernel
theorem dX4_many_62 : decode cX4_many 62 = .ok (.ireturn, 1) := by decide +kernel
theorem dX4_many_63 : decode cX4_many 63 = .ok (.aload_n 0, 1) := by decide +kernel
theorem dX4_many_64 : decode cX4_many 64 = .ok (.getfield 181, 3) := by decide +kernel
theorem dX4_many_67 : decode cX4_many 67 = .ok (.ireturn, 1) := by decide +kernel
theorem dX4_many_68 : decode cX4_many 68 = .ok (.bipush (-2), 2) := by decide +kernel
theorem dX4_many_70 : decode cX4_many 70 = .ok (.ireturn, 1) := by decide +kernel
theorem dX4_hasSea_0 : decode cX4_hasSea 0 = .ok (.aload_n 0, 1) := by decide +kernel
theorem dX4_hasSea_1 : decode cX4_hasSea 1 = .ok (.getfield 86, 3) := by decide +kernel
theorem dX4_hasSea_4 : decode cX4_hasSea 4 = .ok (.ifCond .le 7, 3) := by decide +kernel
theorem dX4_hasSea_7 : decode cX4_hasSea 7 = .ok (.iconst 1, 1) := by decide +kernel
theorem dX4_hasSea_8 : decode cX4_hasSea 8 = .ok (.goto 4, 3) := by decide +kernel
theorem dX4_hasSea_11 : decode cX4_hasSea 11 = .ok (.iconst 0, 1) := by decide +kernel
theorem dX4_hasSea_12 : decode cX4_hasSea 12 = .ok (.ireturn, 1) := by decide +kernel
theorem dX4_isShip_0 : decode cX4_isShip 0 = .ok (.iload_n 1, 1) := by decide +kernel
theorem dX4_isShip_1 : decode cX4_isShip 1 = .ok (.aload_n 0, 1) := by decide +kernel
theorem dX4_isShip_2 : decode cX4_isShip 2 = .ok (.getfield 86, 3) := by decide +kernel
theorem dX4_isShip_5 : decode cX4_isShip 5 = .ok (.invokestatic 66, 3) := by decide +kernel
theorem dX4_isShip_8 : decode cX4_isShip 8 = .ok (.ireturn, 1) := by decide +kernel
theorem dX4_isPort_0 : decode cX4_isPort 0 = .ok (.iload_n 1, 1) := by decide +kernel
theorem dX4_isPort_1 : decode cX4_isPort 1 = .ok (.aload_n 0, 1) := by decide +kernel
theorem dX4_isPort_2 : decode cX4_isPort 2 = .ok (.getfield 162, 3) := by decide +kernel
theorem dX4_isPort_5 : decode cX4_isPort 5 = .ok (.invokestatic 66, 3) := by decide +kernel
theorem dX4_isPort_8 : decode cX4_isPort 8 = .ok (.ireturn, 1) := by decide +kernel
theorem dX4_isSheet_0 : decode cX4_isSheet 0 = .ok (.iload_n 0, 1) := by decide +kernel
theorem dX4_isSheet_1 : decode cX4_isSheet 1 = .ok (.iconst 4, 1) := by decide +kernel
theorem dX4_isSheet_2 : decode cX4_isSheet 2 = .ok (.invokestatic 66, 3) := by decide +kernel
theorem dX4_isSheet_5 : decode cX4_isSheet 5 = .ok (.ireturn, 1) := by decide +kernel
theorem dX4_isGood_0 : decode cX4_isGood 0 = .ok (.iload_n 0, 1) := by decide +kernel
theorem dX4_isGood_1 : decode cX4_isGood 1 = .ok (.iconst 4, 1) := by decide +kernel
theorem dX4_isGood_2 : decode cX4_isGood 2 = .ok (.invokestatic 66, 3) := by decide +kernel
theorem dX4_isGood_5 : decode cX4_isGood 5 = .ok (.ireturn, 1) := by decide +kernel
theorem dX4_isLot_0 : decode cX4_isLot 0 = .ok (.iload_n 0, 1) := by decide +kernel
theorem dX4_isLot_1 : decode cX4_isLot 1 = .ok (.iconst 1, 1) := by decide +kernel
theorem dX4_isLot_2 : decode cX4_isLot 2 = .ok (.if_icmp .lt 13, 3) := by decide +kernel
theorem dX4_isLot_5 : decode cX4_isLot 5 = .ok (.iload_n 0, 1) := by decide +kernel
theorem dX4_isLot_6 : decode cX4_isLot 6 = .ok (.bipush 9, 2) := by decide +kernel
theorem dX4_isLot_8 : decode cX4_isLot 8 = .ok (.if_icmp .gt 7, 3) := by decide +kernel
theorem dX4_isLot_11 : decode cX4_isLot 11 = .ok (.iconst 1, 1) := by decide +kernel
theorem dX4_isLot_12 : decode cX4_isLot 12 = .ok (.goto 4, 3) := by decide +kernel
theorem dX4_isLot_15 : decode cX4_isLot 15 = .ok (.iconst 0, 1) := by decide +kernel
theorem dX4_isLot_16 : decode cX4_isLot 16 = .ok (.ireturn, 1) := by decide +kernel
theorem dX4_isBelow_0 : decode cX4_isBelow 0 = .ok (.iload_n 0, 1) := by decide +kernel
theorem dX4_isBelow_1 : decode cX4_isBelow 1 = .ok (.ifCond .lt 12, 3) := by decide +kernel
theorem dX4_isBelow_4 : decode cX4_isBelow 4 = .ok (.iload_n 0, 1) := by decide +kernel
theorem dX4_isBelow_5 : decode cX4_isBelow 5 = .ok (.iload_n 1, 1) := by decide +kernel
theorem dX4_isBelow_6 : decode cX4_isBelow 6 = .ok (.if_icmp .ge 7, 3) := by decide +kernel
theorem dX4_isBelow_9 : decode cX4_isBelow 9 = .ok (.iconst 1, 1) := by decide +kernel
theorem dX4_isBelow_10 : decode cX4_isBelow 10 = .ok (.goto 4, 3) := by decide +kernel
theorem dX4_isBelow_13 : decode cX4_isBelow 13 = .ok (.iconst 0, 1) := by decide +kernel
theorem dX4_isBelow_14 : decode cX4_isBelow 14 = .ok (.ireturn, 1) := by decide +kernel
theorem dX4_isUpTo_0 : decode cX4_isUpTo 0 = .ok (.iload_n 0, 1) := by decide +kernel
theorem dX4_isUpTo_1 : decode cX4_isUpTo 1 = .ok (.ifCond .lt 12, 3) := by decide +kernel
theorem dX4_isUpTo_4 : decode cX4_isUpTo 4 = .ok (.iload_n 0, 1) := by decide +kernel
theorem dX4_isUpTo_5 : decode cX4_isUpTo 5 = .ok (.iload_n 1, 1) := by decide +kernel
theorem dX4_isUpTo_6 : decode cX4_isUpTo 6 = .ok (.if_icmp .gt 7, 3) := by decide +kernel
theorem dX4_isUpTo_9 : decode cX4_isUpTo 9 = .ok (.iconst 1, 1) := by decide +kernel
theorem dX4_isUpTo_10 : decode cX4_isUpTo 10 = .ok (.goto 4, 3) := by decide +kernel
theorem dX4_isUpTo_13 : decode cX4_isUpTo 13 = .ok (.iconst 0, 1) := by decide +kernel
theorem dX4_isUpTo_14 : decode cX4_isUpTo 14 = .ok (.ireturn, 1) := by decide +kernel
theorem dX4_faulted_0 : decode cX4_faulted 0 = .ok (.aload_n 0, 1) := by decide +kernel
theorem dX4_faulted_1 : decode cX4_faulted 1 = .ok (.iload_n 1, 1) := by decide +kernel
theorem dX4_faulted_2 : decode cX4_faulted 2 = .ok (.putfield 58, 3) := by decide +kernel
theorem dX4_faulted_5 : decode cX4_faulted 5 = .ok (.bipush (-10), 2) := by decide +kernel
theorem dX4_faulted_7 : decode cX4_faulted 7 = .ok (.iload_n 1, 1) := by decide +kernel
theorem dX4_faulted_8 : decode cX4_faulted 8 = .ok (.isub, 1) := by decide +kernel
theorem dX4_faulted_9 : decode cX4_faulted 9 = .ok (.ireturn, 1) := by decide +kernel
end
section
theorem dX4_firstFault_0 : decode cX4_firstFault 0 = .ok (.iload_n 2, 1) := by decide +kernel
theorem dX4_firstFault_1 : decode cX4_firstFault 1 = .ok (.iconst 1, 1) := by decide +kernel
theorem dX4_firstFault_2 : decode cX4_firstFault 2 = .ok (.if_icmp .lt 13, 3) := by decide +kernel
theorem dX4_firstFault_5 : decode cX4_firstFault 5 = .ok (.aload_n 0, 1) := by decide +kernel
theorem dX4_firstFault_6 : decode cX4_firstFault 6 = .ok (.iload_n 1, 1) := by decide +kernel
theorem dX4_firstFault_7 : decode cX4_firstFault 7 = .ok (.invokevirtual 267, 3) := by decide +kernel
theorem dX4_firstFault_10 : decode cX4_firstFault 10 = .ok (.bipush 121, 2) := by decide +kernel
theorem dX4_firstFault_12 : decode cX4_firstFault 12 = .ok (.if_icmp .eq 5, 3) := by decide +kernel
theorem dX4_firstFault_15 : decode cX4_firstFault 15 = .ok (.iconst 0, 1) := by decide +kernel
theorem dX4_firstFault_16 : decode cX4_firstFault 16 = .ok (.ireturn, 1) := by decide +kernel
theorem dX4_firstFault_17 : decode cX4_firstFault 17 = .ok (.aload_n 0, 1) := by decide +kernel
theorem dX4_firstFault_18 : decode cX4_firstFault 18 = .ok (.iload_n 1, 1) := by decide +kernel
theorem dX4_firstFault_19 : decode cX4_firstFault 19 = .ok (.iload_n 2, 1) := by decide +kernel
theorem dX4_firstFault_20 : decode cX4_firstFault 20 = .ok (.invokestatic 270, 3) := by decide +kernel
theorem dX4_firstFault_23 : decode cX4_firstFault 23 = .ok (.istore_n 3, 1) := by decide +kernel
theorem dX4_firstFault_24 : decode cX4_firstFault 24 = .ok (.iconst 1, 1) := by decide +kernel
theorem dX4_firstFault_25 : decode cX4_firstFault 25 = .ok (.iload_n 3, 1) := by decide +kernel
theorem dX4_firstFault_26 : decode cX4_firstFault 26 = .ok (.iadd, 1) := by decide +kernel
theorem dX4_firstFault_27 : decode cX4_firstFault 27 = .ok (.istore 4, 2) := by decide +kernel
theorem dX4_firstFault_29 : decode cX4_firstFault 29 = .ok (.iload_n 3, 1) := by decide +kernel
theorem dX4_firstFault_30 : decode cX4_firstFault 30 = .ok (.iconst 2, 1) := by decide +kernel
theorem dX4_firstFault_31 : decode cX4_firstFault 31 = .ok (.if_icmp .ge 6, 3) := by decide +kernel
theorem dX4_firstFault_34 : decode cX4_firstFault 34 = .ok (.iload 4, 2) := by decide +kernel
theorem dX4_firstFault_36 : decode cX4_firstFault 36 = .ok (.ireturn, 1) := by decide +kernel
theorem dX4_firstFault_37 : decode cX4_firstFault 37 = .ok (.iconst 0, 1) := by decide +kernel
theorem dX4_firstFault_38 : decode cX4_firstFault 38 = .ok (.istore 5, 2) := by decide +kernel
theorem dX4_firstFault_40 : decode cX4_firstFault 40 = .ok (.iload 5, 2) := by decide +kernel
theorem dX4_firstFault_42 : decode cX4_firstFault 42 = .ok (.iconst 5, 1) := by decide +kernel
theorem dX4_firstFault_43 : decode cX4_firstFault 43 = .ok (.if_icmp .ge 55, 3) := by decide +kernel
theorem dX4_firstFault_46 : decode cX4_firstFault 46 = .ok (.iload 4, 2) := by decide +kernel
theorem dX4_firstFault_48 : decode cX4_firstFault 48 = .ok (.iload_n 2, 1) := by decide +kernel
theorem dX4_firstFault_49 : decode cX4_firstFault 49 = .ok (.if_icmp .ne 11, 3) := by decide +kernel
theorem dX4_firstFault_52 : decode cX4_firstFault 52 = .ok (.iload 5, 2) := by decide +kernel
theorem dX4_firstFault_54 : decode cX4_firstFault 54 = .ok (.ifCond .le 6, 3) := by decide +kernel
theorem dX4_firstFault_57 : decode cX4_firstFault 57 = .ok (.bipush (-9), 2) := by decide +kernel
theorem dX4_firstFault_59 : decode cX4_firstFault 59 = .ok (.ireturn, 1) := by decide +kernel
theorem dX4_firstFault_60 : decode cX4_firstFault 60 = .ok (.aload_n 0, 1) := by decide +kernel
theorem dX4_firstFault_61 : decode cX4_firstFault 61 = .ok (.iload_n 1, 1) := by decide +kernel
theorem dX4_firstFault_62 : decode cX4_firstFault 62 = .ok (.iload 4, 2) := by decide +kernel
theorem dX4_firstFault_64 : decode cX4_firstFault 64 = .ok (.iadd, 1) := by decide +kernel
theorem dX4_firstFault_65 : decode cX4_firstFault 65 = .ok (.iload_n 2, 1) := by decide +kernel
theorem dX4_firstFault_66 : decode cX4_firstFault 66 = .ok (.iload 4, 2) := by decide +kernel
theorem dX4_firstFault_68 : decode cX4_firstFault 68 = .ok (.isub, 1) := by decide +kernel
theorem dX4_firstFault_69 : decode cX4_firstFault 69 = .ok (.iload_n 3, 1) := by decide +kernel
theorem dX4_firstFault_70 : decode cX4_firstFault 70 = .ok (.invokestatic 273, 3) := by decide +kernel
theorem dX4_firstFault_73 : decode cX4_firstFault 73 = .ok (.istore 6, 2) := by decide +kernel
theorem dX4_firstFault_75 : decode cX4_firstFault 75 = .ok (.iload 4, 2) := by decide +kernel
theorem dX4_firstFault_77 : decode cX4_firstFault 77 = .ok (.iload 6, 2) := by decide +kernel
theorem dX4_firstFault_79 : decode cX4_firstFault 79 = .ok (.iadd, 1) := by decide +kernel
theorem dX4_firstFault_80 : decode cX4_firstFault 80 = .ok (.istore 4, 2) := by decide +kernel
theorem dX4_firstFault_82 : decode cX4_firstFault 82 = .ok (.iload 6, 2) := by decide +kernel
theorem dX4_firstFault_84 : decode cX4_firstFault 84 = .ok (.bipush 9, 2) := by decide +kernel
theorem dX4_firstFault_86 : decode cX4_firstFault 86 = .ok (.if_icmp .ge 6, 3) := by decide +kernel
theorem dX4_firstFault_89 : decode cX4_firstFault 89 = .ok (.iload 4, 2) := by decide +kernel
theorem dX4_firstFault_91 : decode cX4_firstFault 91 = .ok (.ireturn, 1) := by decide +kernel
theorem dX4_firstFault_92 : decode cX4_firstFault 92 = .ok (.iinc 5 1, 3) := by decide +kernel
theorem dX4_firstFault_95 : decode cX4_firstFault 95 = .ok (.goto (-55), 3) := by decide +kernel
theorem dX4_firstFault_98 : decode cX4_firstFault 98 = .ok (.iload 4, 2) := by decide +kernel
theorem dX4_firstFault_100 : decode cX4_firstFault 100 = .ok (.iload_n 2, 1) := by decide +kernel
theorem dX4_firstFault_101 : decode cX4_firstFault 101 = .ok (.if_icmp .ne 8, 3) := by decide +kernel
theorem dX4_firstFault_104 : decode cX4_firstFault 104 = .ok (.bipush (-9), 2) := by decide +kernel
theorem dX4_firstFault_106 : decode cX4_firstFault 106 = .ok (.goto 5, 3) := by decide +kernel
theorem dX4_firstFault_109 : decode cX4_firstFault 109 = .ok (.iload 4, 2) := by decide +kernel
theorem dX4_firstFault_111 : decode cX4_firstFault 111 = .ok (.ireturn, 1) := by decide +kernel
theorem dX4_countPorts_0 : decode cX4_countPorts 0 = .ok (.iconst 0, 1) := by decide +kernel
theorem dX4_countPorts_1 : decode cX4_countPorts 1 = .ok (.istore_n 3, 1) := by decide +kernel
theorem dX4_countPorts_2 : decode cX4_countPorts 2 = .ok (.iload_n 3, 1) := by decide +kernel
theorem dX4_countPorts_3 : decode cX4_countPorts 3 = .ok (.bipush 6, 2) := by decide +kernel
theorem dX4_countPorts_5 : decode cX4_countPorts 5 = .ok (.if_icmp .ge 33, 3) := by decide +kernel
theorem dX4_countPorts_8 : decode cX4_countPorts 8 = .ok (.iconst 1, 1) := by decide +kernel
theorem dX4_countPorts_9 : decode cX4_countPorts 9 = .ok (.iload_n 3, 1) := by decide +kernel
theorem dX4_countPorts_10 : decode cX4_countPorts 10 = .ok (.iadd, 1) := by decide +kernel
theorem dX4_countPorts_11 : decode cX4_countPorts 11 = .ok (.iload_n 2, 1) := by decide +kernel
theorem dX4_countPorts_12 : decode cX4_countPorts 12 = .ok (.if_icmp .ge 26, 3) := by decide +kernel
theorem dX4_countPorts_15 : decode cX4_countPorts 15 = .ok (.aload_n 0, 1) := by decide +kernel
theorem dX4_countPorts_16 : decode cX4_countPorts 16 = .ok (.iload_n 1, 1) := by decide +kernel
theorem dX4_countPorts_17 : decode cX4_countPorts 17 = .ok (.iconst 1, 1) := by decide +kernel
theorem dX4_countPorts_18 : decode cX4_countPorts 18 = .ok (.iadd, 1) := by decide +kernel
theorem dX4_countPorts_19 : decode cX4_countPorts 19 = .ok (.iload_n 3, 1) := by decide +kernel
theorem dX4_countPorts_20 : decode cX4_countPorts 20 = .ok (.iadd, 1) := by decide +kernel
theorem dX4_countPorts_21 : decode cX4_countPorts 21 = .ok (.invokevirtual 267, 3) := by decide +kernel
theorem dX4_countPorts_24 : decode cX4_countPorts 24 = .ok (.bipush 10, 2) := by decide +kernel
theorem dX4_countPorts_26 : decode cX4_countPorts 26 = .ok (.invokestatic 277, 3) := by decide +kernel
theorem dX4_countPorts_29 : decode cX4_countPorts 29 = .ok (.ifCond .eq 9, 3) := by decide +kernel
theorem dX4_countPorts_32 : decode cX4_countPorts 32 = .ok (.iinc 3 1, 3) := by decide +kernel
theorem dX4_countPorts_35 : decode cX4_countPorts 35 = .ok (.goto (-33), 3) := by decide +kernel
theorem dX4_countPorts_38 : decode cX4_countPorts 38 = .ok (.iload_n 3, 1) := by decide +kernel
theorem dX4_countPorts_39 : decode cX4_countPorts 39 = .ok (.ireturn, 1) := by decide +kernel
theorem dX4_countShipCodes_0 : decode cX4_countShipCodes 0 = .ok (.iconst 0, 1) := by decide +kernel
theorem dX4_countShipCodes_1 : decode cX4_countShipCodes 1 = .ok (.istore 4, 2) := by decide +kernel
theorem dX4_countShipCodes_3 : decode cX4_countShipCodes 3 = .ok (.iload 4, 2) := by decide +kernel
theorem dX4_countShipCodes_5 : decode cX4_countShipCodes 5 = .ok (.bipush 9, 2) := by decide +kernel
theorem dX4_countShipCodes_7 : decode cX4_countShipCodes 7 = .ok (.if_icmp .ge 32, 3) := by decide +kernel
theorem dX4_countShipCodes_10 : decode cX4_countShipCodes 10 = .ok (.iload 4, 2) := by decide +kernel
theorem dX4_countShipCodes_12 : decode cX4_countShipCodes 12 = .ok (.iload_n 2, 1) := by decide +kernel
theorem dX4_countShipCodes_13 : decode cX4_countShipCodes 13 = .ok (.if_icmp .ge 26, 3) := by decide +kernel
theorem dX4_countShipCodes_16 : decode cX4_countShipCodes 16 = .ok (.iload 4, 2) := by decide +kernel
theorem dX4_countShipCodes_18 : decode cX4_countShipCodes 18 = .ok (.aload_n 0, 1) := by decide +kernel
theorem dX4_countShipCodes_19 : decode cX4_countShipCodes 19 = .ok (.iload_n 1, 1) := by decide +kernel
theorem dX4_countShipCodes_20 : decode cX4_countShipCodes 20 = .ok (.iload 4, 2) := by decide +kernel
theorem dX4_countShipCodes_22 : decode cX4_countShipCodes 22 = .ok (.iadd, 1) := by decide +kernel
theorem dX4_countShipCodes_23 : decode cX4_countShipCodes 23 = .ok (.invokevirtual 267, 3) := by decide +kernel
theorem dX4_countShipCodes_26 : decode cX4_countShipCodes 26 = .ok (.iload_n 3, 1) := by decide +kernel
theorem dX4_countShipCodes_27 : decode cX4_countShipCodes 27 = .ok (.invokestatic 280, 3) := by decide +kernel
theorem dX4_countShipCodes_30 : decode cX4_countShipCodes 30 = .ok (.ifCond .eq 9, 3) := by decide +kernel
theorem dX4_countShipCodes_33 : decode cX4_countShipCodes 33 = .ok (.iinc 4 1, 3) := by decide +kernel
theorem dX4_countShipCodes_36 : decode cX4_countShipCodes 36 = .ok (.goto (-33), 3) := by decide +kernel
theorem dX4_countShipCodes_39 : decode cX4_countShipCodes 39 = .ok (.iload 4, 2) := by decide +kernel
theorem dX4_countShipCodes_41 : decode cX4_countShipCodes 41 = .ok (.ireturn, 1) := by decide +kernel
theorem dX4_isShipCode_0 : decode cX4_isShipCode 0 = .ok (.iload_n 0, 1) := by decide +kernel
theorem dX4_isShipCode_1 : decode cX4_isShipCode 1 = .ok (.tableswitch 74 0 4 #[35, 47, 62, 74, 68], 35) := by decide +kernel
theorem dX4_isShipCode_36 : decode cX4_isShipCode 36 = .ok (.iload_n 1, 1) := by decide +kernel
theorem dX4_isShipCode_37 : decode cX4_isShipCode 37 = .ok (.bipush 59, 2) := by decide +kernel
theorem dX4_isShipCode_39 : decode cX4_isShipCode 39 = .ok (.if_icmp .ne 7, 3) := by decide +kernel
theorem dX4_isShipCode_42 : decode cX4_isShipCode 42 = .ok (.iconst 1, 1) := by decide +kernel
theorem dX4_isShipCode_43 : decode cX4_isShipCode 43 = .ok (.goto 4, 3) := by decide +kernel
theorem dX4_isShipCode_46 : decode cX4_isShipCode 46 = .ok (.iconst 0, 1) := by decide +kernel
theorem dX4_isShipCode_47 : decode cX4_isShipCode 47 = .ok (.ireturn, 1) := by decide +kernel
theorem dX4_isShipCode_48 : decode cX4_isShipCode 48 = .ok (.iload_n 1, 1) := by decide +kernel
theorem dX4_isShipCode_49 : decode cX4_isShipCode 49 = .ok (.invokestatic 284, 3) := by decide +kernel
theorem dX4_isShipCode_52 : decode cX4_isShipCode 52 = .ok (.bipush (-9), 2) := by decide +kernel
theorem dX4_isShipCode_54 : decode cX4_isShipCode 54 = .ok (.if_icmp .eq 7, 3) := by decide +kernel
theorem dX4_isShipCode_57 : decode cX4_isShipCode 57 = .ok (.iconst 1, 1) := by decide +kernel
theorem dX4_isShipCode_58 : decode cX4_isShipCode 58 = .ok (.goto 4, 3) := by decide +kernel
theorem dX4_isShipCode_61 : decode cX4_isShipCode 61 = .ok (.iconst 0, 1) := by decide +kernel
theorem dX4_isShipCode_62 : decode cX4_isShipCode 62 = .ok (.ireturn, 1) := by decide +kernel
theorem dX4_isShipCode_63 : decode cX4_isShipCode 63 = .ok (.iload_n 1, 1) := by decide +kernel
theorem dX4_isShipCode_64 : decode cX4_isShipCode 64 = .ok (.iconst 4, 1) := by decide +kernel
theorem dX4_isShipCode_65 : decode cX4_isShipCode 65 = .ok (.invokestatic 277, 3) := by decide +kernel
theorem dX4_isShipCode_68 : decode cX4_isShipCode 68 = .ok (.ireturn, 1) := by decide +kernel
theorem dX4_isShipCode_69 : decode cX4_isShipCode 69 = .ok (.iload_n 1, 1) := by decide +kernel
theorem dX4_isShipCode_70 : decode cX4_isShipCode 70 = .ok (.iload_n 2, 1) := by decide +kernel
theorem dX4_isShipCode_71 : decode cX4_isShipCode 71 = .ok (.invokestatic 277, 3) := by decide +kernel
theorem dX4_isShipCode_74 : decode cX4_isShipCode 74 = .ok (.ireturn, 1) := by decide +kernel
theorem dX4_isShipCode_75 : decode cX4_isShipCode 75 = .ok (.iload_n 1, 1) := by decide +kernel
theorem dX4_isShipCode_76 : decode cX4_isShipCode 76 = .ok (.bipush 10, 2) := by decide +kernel
theorem dX4_isShipCode_78 : decode cX4_isShipCode 78 = .ok (.invokestatic 277, 3) := by decide +kernel
theorem dX4_isShipCode_81 : decode cX4_isShipCode 81 = .ok (.ireturn, 1) := by decide +kernel
theorem dX4_isDigit_0 : decode cX4_isDigit 0 = .ok (.iload_n 0, 1) := by decide +kernel
theorem dX4_isDigit_1 : decode cX4_isDigit 1 = .ok (.bipush 48, 2) := by decide +kernel
theorem dX4_isDigit_3 : decode cX4_isDigit 3 = .ok (.if_icmp .lt 15, 3) := by decide +kernel
theorem dX4_isDigit_6 : decode cX4_isDigit 6 = .ok (.iload_n 0, 1) := by decide +kernel
theorem dX4_isDigit_7 : decode cX4_isDigit 7 = .ok (.bipush 48, 2) := by decide +kernel
theorem dX4_isDigit_9 : decode cX4_isDigit 9 = .ok (.iload_n 1, 1) := by decide +kernel
theorem dX4_isDigit_10 : decode cX4_isDigit 10 = .ok (.iadd, 1) := by decide +kernel
theorem dX4_isDigit_11 : decode cX4_isDigit 11 = .ok (.if_icmp .ge 7, 3) := by decide +kernel
theorem dX4_isDigit_14 : decode cX4_isDigit 14 = .ok (.iconst 1, 1) := by decide +kernel
theorem dX4_isDigit_15 : decode cX4_isDigit 15 = .ok (.goto 4, 3) := by decide +kernel
theorem dX4_isDigit_18 : decode cX4_isDigit 18 = .ok (.iconst 0, 1) := by decide +kernel
theorem dX4_isDigit_19 : decode cX4_isDigit 19 = .ok (.ireturn, 1) := by decide +kernel
theorem dX4_kindByCode_0 : decode cX4_kindByCode 0 = .ok (.iload_n 0, 1) := by decide +kernel
theorem dX4_kindByCode_1 : decode cX4_kindByCode 1 = .ok (.lookupswitch 41 #[(98, 35), (99, 37), (115, 39)], 35) := by decide +kernel
theorem dX4_kindByCode_36 : decode cX4_kindByCode 36 = .ok (.iconst 0, 1) := by decide +kernel
theorem dX4_kindByCode_37 : decode cX4_kindByCode 37 = .ok (.ireturn, 1) := by decide +kernel
theorem dX4_kindByCode_38 : decode cX4_kindByCode 38 = .ok (.iconst 1, 1) := by decide +kernel
theorem dX4_kindByCode_39 : decode cX4_kindByCode 39 = .ok (.ireturn, 1) := by decide +kernel
theorem dX4_kindByCode_40 : decode cX4_kindByCode 40 = .ok (.iconst 2, 1) := by decide +kernel
theorem dX4_kindByCode_41 : decode cX4_kindByCode 41 = .ok (.ireturn, 1) := by decide +kernel
theorem dX4_kindByCode_42 : decode cX4_kindByCode 42 = .ok (.bipush (-9), 2) := by decide +kernel
theorem dX4_kindByCode_44 : decode cX4_kindByCode 44 = .ok (.ireturn, 1) := by decide +kernel
theorem dX4_takeText_0 : decode cX4_takeText 0 = .ok (.aload_n 0, 1) := by decide +kernel
theorem dX4_takeText_1 : decode cX4_takeText 1 = .ok (.aload_n 1, 1) := by decide +kernel
theorem dX4_takeText_2 : decode cX4_takeText 2 = .ok (.iload_n 2, 1) := by decide +kernel
theorem dX4_takeText_3 : decode cX4_takeText 3 = .ok (.iload_n 3, 1) := by decide +kernel
theorem dX4_takeText_4 : decode cX4_takeText 4 = .ok (.invokestatic 270, 3) := by decide +kernel
theorem dX4_takeText_7 : decode cX4_takeText 7 = .ok (.putfield 162, 3) := by decide +kernel
theorem dX4_takeText_10 : decode cX4_takeText 10 = .ok (.iconst 0, 1) := by decide +kernel
theorem dX4_takeText_11 : decode cX4_takeText 11 = .ok (.istore 4, 2) := by decide +kernel
theorem dX4_takeText_13 : decode cX4_takeText 13 = .ok (.iload 4, 2) := by decide +kernel
theorem dX4_takeText_15 : decode cX4_takeText 15 = .ok (.aload_n 0, 1) := by decide +kernel
theorem dX4_takeText_16 : decode cX4_takeText 16 = .ok (.getfield 162, 3) := by decide +kernel
theorem dX4_takeText_19 : decode cX4_takeText 19 = .ok (.if_icmp .ge 26, 3) := by decide +kernel
theorem dX4_takeText_22 : decode cX4_takeText 22 = .ok (.aload_n 0, 1) := by decide +kernel
theorem dX4_takeText_23 : decode cX4_takeText 23 = .ok (.getfield 11, 3) := by decide +kernel
theorem dX4_takeText_26 : decode cX4_takeText 26 = .ok (.iload 4, 2) := by decide +kernel
theorem dX4_takeText_28 : decode cX4_takeText 28 = .ok (.aload_n 1, 1) := by decide +kernel
theorem dX4_takeText_29 : decode cX4_takeText 29 = .ok (.iload_n 2, 1) := by decide +kernel
theorem dX4_takeText_30 : decode cX4_takeText 30 = .ok (.iconst 1, 1) := by decide +kernel
theorem dX4_takeText_31 : decode cX4_takeText 31 = .ok (.iadd, 1) := by decide +kernel
theorem dX4_takeText_32 : decode cX4_takeText 32 = .ok (.iload 4, 2) := by decide +kernel
theorem dX4_takeText_34 : decode cX4_takeText 34 = .ok (.iadd, 1) := by decide +kernel
theorem dX4_takeText_35 : decode cX4_takeText 35 = .ok (.invokevirtual 287, 3) := by decide +kernel
theorem dX4_takeText_38 : decode cX4_takeText 38 = .ok (.iastore, 1) := by decide +kernel
theorem dX4_takeText_39 : decode cX4_takeText 39 = .ok (.iinc 4 1, 3) := by decide +kernel
theorem dX4_takeText_42 : decode cX4_takeText 42 = .ok (.goto (-29), 3) := by decide +kernel
theorem dX4_takeText_45 : decode cX4_takeText 45 = .ok (.iconst 1, 1) := by decide +kernel
theorem dX4_takeText_46 : decode cX4_takeText 46 = .ok (.aload_n 0, 1) := by decide +kernel
theorem dX4_takeText_47 : decode cX4_takeText 47 = .ok (.getfield 162, 3) := by decide +kernel
theorem dX4_takeText_50 : decode cX4_takeText 50 = .ok (.iadd, 1) := by decide +kernel
theorem dX4_takeText_51 : decode cX4_takeText 51 = .ok (.istore 4, 2) := by decide +kernel
theorem dX4_takeText_53 : decode cX4_takeText 53 = .ok (.aload_n 0, 1) := by decide +kernel
theorem dX4_takeText_54 : decode cX4_takeText 54 = .ok (.iconst 0, 1) := by decide +kernel
theorem dX4_takeText_55 : decode cX4_takeText 55 = .ok (.putfield 86, 3) := by decide +kernel
theorem dX4_takeText_58 : decode cX4_takeText 58 = .ok (.aload_n 0, 1) := by decide +kernel
theorem dX4_takeText_59 : decode cX4_takeText 59 = .ok (.getfield 86, 3) := by decide +kernel
theorem dX4_takeText_62 : decode cX4_takeText 62 = .ok (.iconst 5, 1) := by decide +kernel
theorem dX4_takeText_63 : decode cX4_takeText 63 = .ok (.if_icmp .ge 42, 3) := by decide +kernel
theorem dX4_takeText_66 : decode cX4_takeText 66 = .ok (.iload 4, 2) := by decide +kernel
theorem dX4_takeText_68 : decode cX4_takeText 68 = .ok (.iload_n 3, 1) := by decide +kernel
theorem dX4_takeText_69 : decode cX4_takeText 69 = .ok (.if_icmp .ge 36, 3) := by decide +kernel
theorem dX4_takeText_72 : decode cX4_takeText 72 = .ok (.aload_n 0, 1) := by decide +kernel
theorem dX4_takeText_73 : decode cX4_takeText 73 = .ok (.getfield 17, 3) := by decide +kernel
theorem dX4_takeText_76 : decode cX4_takeText 76 = .ok (.aload_n 0, 1) := by decide +kernel
theorem dX4_takeText_77 : decode cX4_takeText 77 = .ok (.getfield 86, 3) := by decide +kernel
theorem dX4_takeText_80 : decode cX4_takeText 80 = .ok (.aaload, 1) := by decide +kernel
theorem dX4_takeText_81 : decode cX4_takeText 81 = .ok (.aload_n 1, 1) := by decide +kernel
theorem dX4_takeText_82 : decode cX4_takeText 82 = .ok (.iload_n 2, 1) := by decide +kernel
theorem dX4_takeText_83 : decode cX4_takeText 83 = .ok (.iload 4, 2) := by decide +kernel
theorem dX4_takeText_85 : decode cX4_takeText 85 = .ok (.iadd, 1) := by decide +kernel
theorem dX4_takeText_86 : decode cX4_takeText 86 = .ok (.invokestatic 290, 3) := by decide +kernel
theorem dX4_takeText_89 : decode cX4_takeText 89 = .ok (.aload_n 0, 1) := by decide +kernel
theorem dX4_takeText_90 : decode cX4_takeText 90 = .ok (.dup, 1) := by decide +kernel
theorem dX4_takeText_91 : decode cX4_takeText 91 = .ok (.getfield 86, 3) := by decide +kernel
theorem dX4_takeText_94 : decode cX4_takeText 94 = .ok (.iconst 1, 1) := by decide +kernel
theorem dX4_takeText_95 : decode cX4_takeText 95 = .ok (.iadd, 1) := by decide +kernel
theorem dX4_takeText_96 : decode cX4_takeText 96 = .ok (.putfield 86, 3) := by decide +kernel
theorem dX4_takeText_99 : decode cX4_takeText 99 = .ok (.iinc 4 9, 3) := by decide +kernel
theorem dX4_takeText_102 : decode cX4_takeText 102 = .ok (.goto (-44), 3) := by decide +kernel
theorem dX4_takeText_105 : decode cX4_takeText 105 = .ok (.aload_n 0, 1) := by decide +kernel
theorem dX4_takeText_106 : decode cX4_takeText 106 = .ok (.iconst 0, 1) := by decide +kernel
theorem dX4_takeText_107 : decode cX4_takeText 107 = .ok (.putfield 137, 3) := by decide +kernel
theorem dX4_takeText_110 : decode cX4_takeText 110 = .ok (.aload_n 0, 1) := by decide +kernel
theorem dX4_takeText_111 : decode cX4_takeText 111 = .ok (.iconst 0, 1) := by decide +kernel
theorem dX4_takeText_112 : decode cX4_takeText 112 = .ok (.putfield 181, 3) := by decide +kernel
theorem dX4_takeText_115 : decode cX4_takeText 115 = .ok (.return_, 1) := by decide +kernel
theorem dX4_takeShip_0 : decode cX4_takeShip 0 = .ok (.aload_n 0, 1) := by decide +kernel
theorem dX4_takeShip_1 : decode cX4_takeShip 1 = .ok (.aload_n 1, 1) := by decide +kernel
theorem dX4_takeShip_2 : decode cX4_takeShip 2 = .ok (.iload_n 2, 1) := by decide +kernel
theorem dX4_takeShip_3 : decode cX4_takeShip 3 = .ok (.iconst 1, 1) := by decide +kernel
theorem dX4_takeShip_4 : decode cX4_takeShip 4 = .ok (.iadd, 1) := by decide +kernel
theorem dX4_takeShip_5 : decode cX4_takeShip 5 = .ok (.invokevirtual 267, 3) := by decide +kernel
theorem dX4_takeShip_8 : decode cX4_takeShip 8 = .ok (.invokestatic 284, 3) := by decide +kernel
theorem dX4_takeShip_11 : decode cX4_takeShip 11 = .ok (.putfield 92, 3) := by decide +kernel
theorem dX4_takeShip_14 : decode cX4_takeShip 14 = .ok (.aload_n 0, 1) := by decide +kernel
theorem dX4_takeShip_15 : decode cX4_takeShip 15 = .ok (.aload_n 1, 1) := by decide +kernel
theorem dX4_takeShip_16 : decode cX4_takeShip 16 = .ok (.iload_n 2, 1) := by decide +kernel
theorem dX4_takeShip_17 : decode cX4_takeShip 17 = .ok (.iconst 2, 1) := by decide +kernel
theorem dX4_takeShip_18 : decode cX4_takeShip 18 = .ok (.iadd, 1) := by decide +kernel
theorem dX4_takeShip_19 : decode cX4_takeShip 19 = .ok (.invokevirtual 287, 3) := by decide +kernel
theorem dX4_takeShip_22 : decode cX4_takeShip 22 = .ok (.putfield 95, 3) := by decide +kernel
theorem dX4_takeShip_25 : decode cX4_takeShip 25 = .ok (.aload_n 0, 1) := by decide +kernel
theorem dX4_takeShip_26 : decode cX4_takeShip 26 = .ok (.aload_n 1, 1) := by decide +kernel
theorem dX4_takeShip_27 : decode cX4_takeShip 27 = .ok (.iload_n 2, 1) := by decide +kernel
theorem dX4_takeShip_28 : decode cX4_takeShip 28 = .ok (.iconst 3, 1) := by decide +kernel
theorem dX4_takeShip_29 : decode cX4_takeShip 29 = .ok (.iadd, 1) := by decide +kernel
theorem dX4_takeShip_30 : decode cX4_takeShip 30 = .ok (.invokevirtual 287, 3) := by decide +kernel
theorem dX4_takeShip_33 : decode cX4_takeShip 33 = .ok (.putfield 98, 3) := by decide +kernel
theorem dX4_takeShip_36 : decode cX4_takeShip 36 = .ok (.aload_n 0, 1) := by decide +kernel
theorem dX4_takeShip_37 : decode cX4_takeShip 37 = .ok (.aload_n 1, 1) := by decide +kernel
theorem dX4_takeShip_38 : decode cX4_takeShip 38 = .ok (.iload_n 2, 1) := by decide +kernel
theorem dX4_takeShip_39 : decode cX4_takeShip 39 = .ok (.iconst 4, 1) := by decide +kernel
theorem dX4_takeShip_40 : decode cX4_takeShip 40 = .ok (.iadd, 1) := by decide +kernel
theorem dX4_takeShip_41 : decode cX4_takeShip 41 = .ok (.invokevirtual 287, 3) := by decide +kernel
theorem dX4_takeShip_44 : decode cX4_takeShip 44 = .ok (.putfield 105, 3) := by decide +kernel
theorem dX4_takeShip_47 : decode cX4_takeShip 47 = .ok (.iconst 0, 1) := by decide +kernel
theorem dX4_takeShip_48 : decode cX4_takeShip 48 = .ok (.istore_n 3, 1) := by decide +kernel
theorem dX4_takeShip_49 : decode cX4_takeShip 49 = .ok (.iload_n 3, 1) := by decide +kernel
theorem dX4_takeShip_50 : decode cX4_takeShip 50 = .ok (.iconst 4, 1) := by decide +kernel
theorem dX4_takeShip_51 : decode cX4_takeShip 51 = .ok (.if_icmp .ge 24, 3) := by decide +kernel
theorem dX4_takeShip_54 : decode cX4_takeShip 54 = .ok (.aload_n 0, 1) := by decide +kernel
theorem dX4_takeShip_55 : decode cX4_takeShip 55 = .ok (.getfield 121, 3) := by decide +kernel
theorem dX4_takeShip_58 : decode cX4_takeShip 58 = .ok (.iload_n 3, 1) := by decide +kernel
theorem dX4_takeShip_59 : decode cX4_takeShip 59 = .ok (.aload_n 1, 1) := by decide +kernel
theorem dX4_takeShip_60 : decode cX4_takeShip 60 = .ok (.iload_n 2, 1) := by decide +kernel
theorem dX4_takeShip_61 : decode cX4_takeShip 61 = .ok (.iconst 5, 1) := by decide +kernel
theorem dX4_takeShip_62 : decode cX4_takeShip 62 = .ok (.iadd, 1) := by decide +kernel
theorem dX4_takeShip_63 : decode cX4_takeShip 63 = .ok (.iload_n 3, 1) := by decide +kernel
theorem dX4_takeShip_64 : decode cX4_takeShip 64 = .ok (.iadd, 1) := by decide +kernel
theorem dX4_takeShip_65 : decode cX4_takeShip 65 = .ok (.invokevirtual 287, 3) := by decide +kernel
theorem dX4_takeShip_68 : decode cX4_takeShip 68 = .ok (.iastore, 1) := by decide +kernel
theorem dX4_takeShip_69 : decode cX4_takeShip 69 = .ok (.iinc 3 1, 3) := by decide +kernel
theorem dX4_takeShip_72 : decode cX4_takeShip 72 = .ok (.goto (-23), 3) := by decide +kernel
theorem dX4_takeShip_75 : decode cX4_takeShip 75 = .ok (.return_, 1) := by decide +kernel
theorem dX4_portBehind_0 : decode cX4_portBehind 0 = .ok (.iload_n 1, 1) := by decide +kernel
theorem dX4_portBehind_1 : decode cX4_portBehind 1 = .ok (.iconst 1, 1) := by decide +kernel
theorem dX4_portBehind_2 : decode cX4_portBehind 2 = .ok (.iadd, 1) := by decide +kernel
theorem dX4_portBehind_3 : decode cX4_portBehind 3 = .ok (.aload_n 0, 1) := by decide +kernel
theorem dX4_portBehind_4 : decode cX4_portBehind 4 = .ok (.getfield 162, 3) := by decide +kernel
theorem dX4_portBehind_7 : decode cX4_portBehind 7 = .ok (.if_icmp .ge 9, 3) := by decide +kernel
theorem dX4_portBehind_10 : decode cX4_portBehind 10 = .ok (.iload_n 1, 1) := by decide +kernel
theorem dX4_portBehind_11 : decode cX4_portBehind 11 = .ok (.iconst 1, 1) := by decide +kernel
theorem dX4_portBehind_12 : decode cX4_portBehind 12 = .ok (.iadd, 1) := by decide +kernel
theorem dX4_portBehind_13 : decode cX4_portBehind 13 = .ok (.goto 4, 3) := by decide +kernel
theorem dX4_portBehind_16 : decode cX4_portBehind 16 = .ok (.iconst 0, 1) := by decide +kernel
theorem dX4_portBehind_17 : decode cX4_portBehind 17 = .ok (.ireturn, 1) := by decide +kernel
theorem dX4_sailDay_0 : decode cX4_sailDay 0 = .ok (.aload_n 0, 1) := by decide +kernel
theorem dX4_sailDay_1 : decode cX4_sailDay 1 = .ok (.getfield 11, 3) := by decide +kernel
theorem dX4_sailDay_4 : decode cX4_sailDay 4 = .ok (.aload_n 1, 1) := by decide +kernel
theorem dX4_sailDay_5 : decode cX4_sailDay 5 = .ok (.getfield 105, 3) := by decide +kernel
theorem dX4_sailDay_8 : decode cX4_sailDay 8 = .ok (.iaload, 1) := by decide +kernel
theorem dX4_sailDay_9 : decode cX4_sailDay 9 = .ok (.aload_n 1, 1) := by decide +kernel
theorem dX4_sailDay_10 : decode cX4_sailDay 10 = .ok (.invokevirtual 101, 3) := by decide +kernel
theorem dX4_sailDay_13 : decode cX4_sailDay 13 = .ok (.if_icmp .le 10, 3) := by decide +kernel
theorem dX4_sailDay_16 : decode cX4_sailDay 16 = .ok (.aload_n 1, 1) := by decide +kernel
theorem dX4_sailDay_17 : decode cX4_sailDay 17 = .ok (.invokevirtual 201, 3) := by decide +kernel
theorem dX4_sailDay_20 : decode cX4_sailDay 20 = .ok (.goto 5, 3) := by decide +kernel
theorem dX4_sailDay_23 : decode cX4_sailDay 23 = .ok (.bipush (-9), 2) := by decide +kernel
theorem dX4_sailDay_25 : decode cX4_sailDay 25 = .ok (.istore_n 2, 1) := by decide +kernel
theorem dX4_sailDay_26 : decode cX4_sailDay 26 = .ok (.iload_n 2, 1) := by decide +kernel
theorem dX4_sailDay_27 : decode cX4_sailDay 27 = .ok (.bipush (-9), 2) := by decide +kernel
theorem dX4_sailDay_29 : decode cX4_sailDay 29 = .ok (.if_icmp .eq 13, 3) := by decide +kernel
theorem dX4_sailDay_32 : decode cX4_sailDay 32 = .ok (.aload_n 1, 1) := by decide +kernel
theorem dX4_sailDay_33 : decode cX4_sailDay 33 = .ok (.getfield 121, 3) := by decide +kernel
theorem dX4_sailDay_36 : decode cX4_sailDay 36 = .ok (.iload_n 2, 1) := by decide +kernel
theorem dX4_sailDay_37 : decode cX4_sailDay 37 = .ok (.dup2, 1) := by decide +kernel
theorem dX4_sailDay_38 : decode cX4_sailDay 38 = .ok (.iaload, 1) := by decide +kernel
theorem dX4_sailDay_39 : decode cX4_sailDay 39 = .ok (.iconst 1, 1) := by decide +kernel
theorem dX4_sailDay_40 : decode cX4_sailDay 40 = .ok (.isub, 1) := by decide +kernel
theorem dX4_sailDay_41 : decode cX4_sailDay 41 = .ok (.iastore, 1) := by decide +kernel
theorem dX4_sailDay_42 : decode cX4_sailDay 42 = .ok (.aload_n 1, 1) := by decide +kernel
theorem dX4_sailDay_43 : decode cX4_sailDay 43 = .ok (.aload_n 0, 1) := by decide +kernel
theorem dX4_sailDay_44 : decode cX4_sailDay 44 = .ok (.aload_n 1, 1) := by decide +kernel
theorem dX4_sailDay_45 : decode cX4_sailDay 45 = .ok (.getfield 105, 3) := by decide +kernel
theorem dX4_sailDay_48 : decode cX4_sailDay 48 = .ok (.invokevirtual 155, 3) := by decide +kernel
theorem dX4_sailDay_51 : decode cX4_sailDay 51 = .ok (.putfield 105, 3) := by decide +kernel
theorem dX4_sailDay_54 : decode cX4_sailDay 54 = .ok (.iload_n 2, 1) := by decide +kernel
theorem dX4_sailDay_55 : decode cX4_sailDay 55 = .ok (.ireturn, 1) := by decide +kernel
theorem dX4_roughDays_0 : decode cX4_roughDays 0 = .ok (.iload_n 2, 1) := by decide +kernel
theorem dX4_roughDays_1 : decode cX4_roughDays 1 = .ok (.istore 4, 2) := by decide +kernel
theorem dX4_roughDays_3 : decode cX4_roughDays 3 = .ok (.iconst 0, 1) := by decide +kernel
theorem dX4_roughDays_4 : decode cX4_roughDays 4 = .ok (.istore 5, 2) := by decide +kernel
theorem dX4_roughDays_6 : decode cX4_roughDays 6 = .ok (.iconst 0, 1) := by decide +kernel
theorem dX4_roughDays_7 : decode cX4_roughDays 7 = .ok (.istore 6, 2) := by decide +kernel
theorem dX4_roughDays_9 : decode cX4_roughDays 9 = .ok (.iload 6, 2) := by decide +kernel
theorem dX4_roughDays_11 : decode cX4_roughDays 11 = .ok (.iload_n 3, 1) := by decide +kernel
theorem dX4_roughDays_12 : decode cX4_roughDays 12 = .ok (.if_icmp .ge 31, 3) := by decide +kernel
theorem dX4_roughDays_15 : decode cX4_roughDays 15 = .ok (.aload_n 0, 1) := by decide +kernel
theorem dX4_roughDays_16 : decode cX4_roughDays 16 = .ok (.getfield 11, 3) := by decide +kernel
theorem dX4_roughDays_19 : decode cX4_roughDays 19 = .ok (.iload 4, 2) := by decide +kernel
theorem dX4_roughDays_21 : decode cX4_roughDays 21 = .ok (.iaload, 1) := by decide +kernel
theorem dX4_roughDays_22 : decode cX4_roughDays 22 = .ok (.iload_n 1, 1) := by decide +kernel
theorem dX4_roughDays_23 : decode cX4_roughDays 23 = .ok (.if_icmp .le 6, 3) := by decide +kernel
theorem dX4_roughDays_26 : decode cX4_roughDays 26 = .ok (.iinc 5 1, 3) := by decide +kernel
theorem dX4_roughDays_29 : decode cX4_roughDays 29 = .ok (.aload_n 0, 1) := by decide +kernel
theorem dX4_roughDays_30 : decode cX4_roughDays 30 = .ok (.iload 4, 2) := by decide +kernel
theorem dX4_roughDays_32 : decode cX4_roughDays 32 = .ok (.invokevirtual 155, 3) := by decide +kernel
theorem dX4_roughDays_35 : decode cX4_roughDays 35 = .ok (.istore 4, 2) := by decide +kernel
theorem dX4_roughDays_37 : decode cX4_roughDays 37 = .ok (.iinc 6 1, 3) := by decide +kernel
theorem dX4_roughDays_40 : decode cX4_roughDays 40 = .ok (.goto (-31), 3) := by decide +kernel
theorem dX4_roughDays_43 : decode cX4_roughDays 43 = .ok (.iload 5, 2) := by decide +kernel
theorem dX4_roughDays_45 : decode cX4_roughDays 45 = .ok (.ireturn, 1) := by decide +kernel
theorem dX4_roughPorts_0 : decode cX4_roughPorts 0 = .ok (.aload_n 0, 1) := by decide +kernel
theorem dX4_roughPorts_1 : decode cX4_roughPorts 1 = .ok (.iload_n 1, 1) := by decide +kernel
theorem dX4_roughPorts_2 : decode cX4_roughPorts 2 = .ok (.iconst 0, 1) := by decide +kernel
theorem dX4_roughPorts_3 : decode cX4_roughPorts 3 = .ok (.aload_n 0, 1) := by decide +kernel
theorem dX4_roughPorts_4 : decode cX4_roughPorts 4 = .ok (.getfield 162, 3) := by decide +kernel
theorem dX4_roughPorts_7 : decode cX4_roughPorts 7 = .ok (.invokevirtual 165, 3) := by decide +kernel
theorem dX4_roughPorts_10 : decode cX4_roughPorts 10 = .ok (.ireturn, 1) := by decide +kernel
theorem dX4_worthLostFrom_0 : decode cX4_worthLostFrom 0 = .ok (.aload_n 1, 1) := by decide +kernel
theorem dX4_worthLostFrom_1 : decode cX4_worthLostFrom 1 = .ok (.getfield 121, 3) := by decide +kernel
theorem dX4_worthLostFrom_4 : decode cX4_worthLostFrom 4 = .ok (.aload_n 1, 1) := by decide +kernel
theorem dX4_worthLostFrom_5 : decode cX4_worthLostFrom 5 = .ok (.getfield 95, 3) := by decide +kernel
theorem dX4_worthLostFrom_8 : decode cX4_worthLostFrom 8 = .ok (.aload_n 0, 1) := by decide +kernel
theorem dX4_worthLostFrom_9 : decode cX4_worthLostFrom 9 = .ok (.aload_n 1, 1) := by decide +kernel
theorem dX4_worthLostFrom_10 : decode cX4_worthLostFrom 10 = .ok (.invokevirtual 101, 3) := by decide +kernel
theorem dX4_worthLostFrom_13 : decode cX4_worthLostFrom 13 = .ok (.iload_n 2, 1) := by decide +kernel
theorem dX4_worthLostFrom_14 : decode cX4_worthLostFrom 14 = .ok (.iload_n 3, 1) := by decide +kernel
theorem dX4_worthLostFrom_15 : decode cX4_worthLostFrom 15 = .ok (.invokevirtual 165, 3) := by decide +kernel
theorem dX4_worthLostFrom_18 : decode cX4_worthLostFrom 18 = .ok (.aload_n 0, 1) := by decide +kernel
theorem dX4_worthLostFrom_19 : decode cX4_worthLostFrom 19 = .ok (.getfield 38, 3) := by decide +kernel
theorem dX4_worthLostFrom_22 : decode cX4_worthLostFrom 22 = .ok (.invokestatic 191, 3) := by decide +kernel
theorem dX4_worthLostFrom_25 : decode cX4_worthLostFrom 25 = .ok (.aload_n 0, 1) := by decide +kernel
theorem dX4_worthLostFrom_26 : decode cX4_worthLostFrom 26 = .ok (.getfield 38, 3) := by decide +kernel
theorem dX4_worthLostFrom_29 : decode cX4_worthLostFrom 29 = .ok (.invokestatic 294, 3) := by decide +kernel
theorem dX4_worthLostFrom_32 : decode cX4_worthLostFrom 32 = .ok (.ireturn, 1) := by decide +kernel
theorem dX4_fillLosses_0 : decode cX4_fillLosses 0 = .ok (.iload_n 2, 1) := by decide +kernel
theorem dX4_fillLosses_1 : decode cX4_fillLosses 1 = .ok (.istore 4, 2) := by decide +kernel
theorem dX4_fillLosses_3 : decode cX4_fillLosses 3 = .ok (.aload_n 3, 1) := by decide +kernel
theorem dX4_fillLosses_4 : decode cX4_fillLosses 4 = .ok (.iload_n 1, 1) := by decide +kernel
theorem dX4_fillLosses_5 : decode cX4_fillLosses 5 = .ok (.iload 4, 2) := by decide +kernel
theorem dX4_fillLosses_7 : decode cX4_fillLosses 7 = .ok (.aload_n 0, 1) := by decide +kernel
theorem dX4_fillLosses_8 : decode cX4_fillLosses 8 = .ok (.iload_n 1, 1) := by decide +kernel
theorem dX4_fillLosses_9 : decode cX4_fillLosses 9 = .ok (.iaload, 1) := by decide +kernel
theorem dX4_fillLosses_10 : decode cX4_fillLosses 10 = .ok (.invokestatic 298, 3) := by decide +kernel
theorem dX4_fillLosses_13 : decode cX4_fillLosses 13 = .ok (.iastore, 1) := by decide +kernel
theorem dX4_fillLosses_14 : decode cX4_fillLosses 14 = .ok (.iload 4, 2) := by decide +kernel
theorem dX4_fillLosses_16 : decode cX4_fillLosses 16 = .ok (.aload_n 3, 1) := by decide +kernel
theorem dX4_fillLosses_17 : decode cX4_fillLosses 17 = .ok (.iload_n 1, 1) := by decide +kernel
theorem dX4_fillLosses_18 : decode cX4_fillLosses 18 = .ok (.iaload, 1) := by decide +kernel
theorem dX4_fillLosses_19 : decode cX4_fillLosses 19 = .ok (.isub, 1) := by decide +kernel
theorem dX4_fillLosses_20 : decode cX4_fillLosses 20 = .ok (.istore 4, 2) := by decide +kernel
theorem dX4_fillLosses_22 : decode cX4_fillLosses 22 = .ok (.iconst 0, 1) := by decide +kernel
theorem dX4_fillLosses_23 : decode cX4_fillLosses 23 = .ok (.istore 5, 2) := by decide +kernel
theorem dX4_fillLosses_25 : decode cX4_fillLosses 25 = .ok (.iload 5, 2) := by decide +kernel
theorem dX4_fillLosses_27 : decode cX4_fillLosses 27 = .ok (.iconst 4, 1) := by decide +kernel
theorem dX4_fillLosses_28 : decode cX4_fillLosses 28 = .ok (.if_icmp .ge 37, 3) := by decide +kernel
theorem dX4_fillLosses_31 : decode cX4_fillLosses 31 = .ok (.iload 5, 2) := by decide +kernel
theorem dX4_fillLosses_33 : decode cX4_fillLosses 33 = .ok (.iload_n 1, 1) := by decide +kernel
theorem dX4_fillLosses_34 : decode cX4_fillLosses 34 = .ok (.if_icmp .eq 25, 3) := by decide +kernel
theorem dX4_fillLosses_37 : decode cX4_fillLosses 37 = .ok (.aload_n 3, 1) := by decide +kernel
theorem dX4_fillLosses_38 : decode cX4_fillLosses 38 = .ok (.iload 5, 2) := by decide +kernel
theorem dX4_fillLosses_40 : decode cX4_fillLosses 40 = .ok (.iload 4, 2) := by decide +kernel
theorem dX4_fillLosses_42 : decode cX4_fillLosses 42 = .ok (.aload_n 0, 1) := by decide +kernel
theorem dX4_fillLosses_43 : decode cX4_fillLosses 43 = .ok (.iload 5, 2) := by decide +kernel
theorem dX4_fillLosses_45 : decode cX4_fillLosses 45 = .ok (.iaload, 1) := by decide +kernel
theorem dX4_fillLosses_46 : decode cX4_fillLosses 46 = .ok (.invokestatic 298, 3) := by decide +kernel
theorem dX4_fillLosses_49 : decode cX4_fillLosses 49 = .ok (.iastore, 1) := by decide +kernel
theorem dX4_fillLosses_50 : decode cX4_fillLosses 50 = .ok (.iload 4, 2) := by decide +kernel
theorem dX4_fillLosses_52 : decode cX4_fillLosses 52 = .ok (.aload_n 3, 1) := by decide +kernel
theorem dX4_fillLosses_53 : decode cX4_fillLosses 53 = .ok (.iload 5, 2) := by decide +kernel
theorem dX4_fillLosses_55 : decode cX4_fillLosses 55 = .ok (.iaload, 1) := by decide +kernel
theorem dX4_fillLosses_56 : decode cX4_fillLosses 56 = .ok (.isub, 1) := by decide +kernel
theorem dX4_fillLosses_57 : decode cX4_fillLosses 57 = .ok (.istore 4, 2) := by decide +kernel
theorem dX4_fillLosses_59 : decode cX4_fillLosses 59 = .ok (.iinc 5 1, 3) := by decide +kernel
theorem dX4_fillLosses_62 : decode cX4_fillLosses 62 = .ok (.goto (-37), 3) := by decide +kernel
theorem dX4_fillLosses_65 : decode cX4_fillLosses 65 = .ok (.return_, 1) := by decide +kernel
theorem dX4_worthOf_0 : decode cX4_worthOf 0 = .ok (.iload_n 0, 1) := by decide +kernel
theorem dX4_worthOf_1 : decode cX4_worthOf 1 = .ok (.iconst 1, 1) := by decide +kernel
theorem dX4_worthOf_2 : decode cX4_worthOf 2 = .ok (.iadd, 1) := by decide +kernel
theorem dX4_worthOf_3 : decode cX4_worthOf 3 = .ok (.ireturn, 1) := by decide +kernel
theorem dX4_worthOfAll_0 : decode cX4_worthOfAll 0 = .ok (.iconst 0, 1) := by decide +kernel
theorem dX4_worthOfAll_1 : decode cX4_worthOfAll 1 = .ok (.istore_n 1, 1) := by decide +kernel
theorem dX4_worthOfAll_2 : decode cX4_worthOfAll 2 = .ok (.iconst 0, 1) := by decide +kernel
theorem dX4_worthOfAll_3 : decode cX4_worthOfAll 3 = .ok (.istore_n 2, 1) := by decide +kernel
theorem dX4_worthOfAll_4 : decode cX4_worthOfAll 4 = .ok (.iload_n 2, 1) := by decide +kernel
theorem dX4_worthOfAll_5 : decode cX4_worthOfAll 5 = .ok (.iconst 4, 1) := by decide +kernel
theorem dX4_worthOfAll_6 : decode cX4_worthOfAll 6 = .ok (.if_icmp .ge 20, 3) := by decide +kernel
theorem dX4_worthOfAll_9 : decode cX4_worthOfAll 9 = .ok (.iload_n 1, 1) := by decide +kernel
theorem dX4_worthOfAll_10 : decode cX4_worthOfAll 10 = .ok (.aload_n 0, 1) := by decide +kernel
theorem dX4_worthOfAll_11 : decode cX4_worthOfAll 11 = .ok (.iload_n 2, 1) := by decide +kernel
theorem dX4_worthOfAll_12 : decode cX4_worthOfAll 12 = .ok (.iaload, 1) := by decide +kernel
theorem dX4_worthOfAll_13 : decode cX4_worthOfAll 13 = .ok (.iload_n 2, 1) := by decide +kernel
theorem dX4_worthOfAll_14 : decode cX4_worthOfAll 14 = .ok (.invokestatic 211, 3) := by decide +kernel
theorem dX4_worthOfAll_17 : decode cX4_worthOfAll 17 = .ok (.imul, 1) := by decide +kernel
theorem dX4_worthOfAll_18 : decode cX4_worthOfAll 18 = .ok (.iadd, 1) := by decide +kernel
theorem dX4_worthOfAll_19 : decode cX4_worthOfAll 19 = .ok (.istore_n 1, 1) := by decide +kernel
theorem dX4_worthOfAll_20 : decode cX4_worthOfAll 20 = .ok (.iinc 2 1, 3) := by decide +kernel
theorem dX4_worthOfAll_23 : decode cX4_worthOfAll 23 = .ok (.goto (-19), 3) := by decide +kernel
theorem dX4_worthOfAll_26 : decode cX4_worthOfAll 26 = .ok (.iload_n 1, 1) := by decide +kernel
theorem dX4_worthOfAll_27 : decode cX4_worthOfAll 27 = .ok (.ireturn, 1) := by decide +kernel
theorem dX4_bearingOf_0 : decode cX4_bearingOf 0 = .ok (.iload_n 0, 1) := by decide +kernel
theorem dX4_bearingOf_1 : decode cX4_bearingOf 1 = .ok (.lookupswitch 35 #[(1, 31), (2, 27)], 27) := by decide +kernel
theorem dX4_bearingOf_28 : decode cX4_bearingOf 28 = .ok (.iconst 2, 1) := by decide +kernel
theorem dX4_bearingOf_29 : decode cX4_bearingOf 29 = .ok (.iload_n 1, 1) := by decide +kernel
theorem dX4_bearingOf_30 : decode cX4_bearingOf 30 = .ok (.imul, 1) := by decide +kernel
theorem dX4_bearingOf_31 : decode cX4_bearingOf 31 = .ok (.ireturn, 1) := by decide +kernel
theorem dX4_bearingOf_32 : decode cX4_bearingOf 32 = .ok (.iload_n 1, 1) := by decide +kernel
theorem dX4_bearingOf_33 : decode cX4_bearingOf 33 = .ok (.iconst 1, 1) := by decide +kernel
theorem dX4_bearingOf_34 : decode cX4_bearingOf 34 = .ok (.iadd, 1) := by decide +kernel
theorem dX4_bearingOf_35 : decode cX4_bearingOf 35 = .ok (.ireturn, 1) := by decide +kernel
theorem dX4_bearingOf_36 : decode cX4_bearingOf 36 = .ok (.iload_n 1, 1) := by decide +kernel
theorem dX4_bearingOf_37 : decode cX4_bearingOf 37 = .ok (.ireturn, 1) := by decide +kernel
theorem dX4_metOf_0 : decode cX4_metOf 0 = .ok (.iconst 0, 1) := by decide +kernel
theorem dX4_metOf_1 : decode cX4_metOf 1 = .ok (.istore_n 2, 1) := by decide +kernel
theorem dX4_metOf_2 : decode cX4_metOf 2 = .ok (.iconst 0, 1) := by decide +kernel
theorem dX4_metOf_3 : decode cX4_metOf 3 = .ok (.istore_n 3, 1) := by decide +kernel
theorem dX4_metOf_4 : decode cX4_metOf 4 = .ok (.iload_n 3, 1) := by decide +kernel
theorem dX4_metOf_5 : decode cX4_metOf 5 = .ok (.aload_n 0, 1) := by decide +kernel
theorem dX4_metOf_6 : decode cX4_metOf 6 = .ok (.getfield 86, 3) := by decide +kernel
theorem dX4_metOf_9 : decode cX4_metOf 9 = .ok (.if_icmp .ge 24, 3) := by decide +kernel
theorem dX4_metOf_12 : decode cX4_metOf 12 = .ok (.aload_n 1, 1) := by decide +kernel
theorem dX4_metOf_13 : decode cX4_metOf 13 = .ok (.iload_n 3, 1) := by decide +kernel
theorem dX4_metOf_14 : decode cX4_metOf 14 = .ok (.aaload, 1) := by decide +kernel
theorem dX4_metOf_15 : decode cX4_metOf 15 = .ok (.invokevirtual 108, 3) := by decide +kernel
theorem dX4_metOf_18 : decode cX4_metOf 18 = .ok (.ifCond .eq 9, 3) := by decide +kernel
theorem dX4_metOf_21 : decode cX4_metOf 21 = .ok (.iload_n 2, 1) := by decide +kernel
theorem dX4_metOf_22 : decode cX4_metOf 22 = .ok (.iconst 1, 1) := by decide +kernel
theorem dX4_metOf_23 : decode cX4_metOf 23 = .ok (.iload_n 3, 1) := by decide +kernel
theorem dX4_metOf_24 : decode cX4_metOf 24 = .ok (.ishl, 1) := by decide +kernel
theorem dX4_metOf_25 : decode cX4_metOf 25 = .ok (.ior, 1) := by decide +kernel
theorem dX4_metOf_26 : decode cX4_metOf 26 = .ok (.istore_n 2, 1) := by decide +kernel
theorem dX4_metOf_27 : decode cX4_metOf 27 = .ok (.iinc 3 1, 3) := by decide +kernel
theorem dX4_metOf_30 : decode cX4_metOf 30 = .ok (.goto (-26), 3) := by decide +kernel
theorem dX4_metOf_33 : decode cX4_metOf 33 = .ok (.iload_n 2, 1) := by decide +kernel
theorem dX4_metOf_34 : decode cX4_metOf 34 = .ok (.ireturn, 1) := by decide +kernel
theorem dX4_isAskedOfVoyage_0 : decode cX4_isAskedOfVoyage 0 = .ok (.iload_n 0, 1) := by decide +kernel
theorem dX4_isAskedOfVoyage_1 : decode cX4_isAskedOfVoyage 1 = .ok (.iconst 4, 1) := by decide +kernel
theorem dX4_isAskedOfVoyage_2 : decode cX4_isAskedOfVoyage 2 = .ok (.invokestatic 127, 3) := by decide +kernel
theorem dX4_isAskedOfVoyage_5 : decode cX4_isAskedOfVoyage 5 = .ok (.ifCond .ne 14, 3) := by decide +kernel
theorem dX4_isAskedOfVoyage_8 : decode cX4_isAskedOfVoyage 8 = .ok (.iload_n 0, 1) := by decide +kernel
theorem dX4_isAskedOfVoyage_9 : decode cX4_isAskedOfVoyage 9 = .ok (.bipush 10, 2) := by decide +kernel
theorem dX4_isAskedOfVoyage_11 : decode cX4_isAskedOfVoyage 11 = .ok (.isub, 1) := by decide +kernel
theorem dX4_isAskedOfVoyage_12 : decode cX4_isAskedOfVoyage 12 = .ok (.iconst 5, 1) := by decide +kernel
theorem dX4_isAskedOfVoyage_13 : decode cX4_isAskedOfVoyage 13 = .ok (.invokestatic 66, 3) := by decide +kernel
theorem dX4_isAskedOfVoyage_16 : decode cX4_isAskedOfVoyage 16 = .ok (.ifCond .eq 7, 3) := by decide +kernel
theorem dX4_isAskedOfVoyage_19 : decode cX4_isAskedOfVoyage 19 = .ok (.iconst 1, 1) := by decide +kernel
theorem dX4_isAskedOfVoyage_20 : decode cX4_isAskedOfVoyage 20 = .ok (.goto 4, 3) := by decide +kernel
theorem dX4_isAskedOfVoyage_23 : decode cX4_isAskedOfVoyage 23 = .ok (.iconst 0, 1) := by decide +kernel
theorem dX4_isAskedOfVoyage_24 : decode cX4_isAskedOfVoyage 24 = .ok (.ireturn, 1) := by decide +kernel
theorem dX4_refusalOfPairs_0 : decode cX4_refusalOfPairs 0 = .ok (.iconst 0, 1) := by decide +kernel
theorem dX4_refusalOfPairs_1 : decode cX4_refusalOfPairs 1 = .ok (.istore 4, 2) := by decide +kernel
theorem dX4_refusalOfPairs_3 : decode cX4_refusalOfPairs 3 = .ok (.iload 4, 2) := by decide +kernel
theorem dX4_refusalOfPairs_5 : decode cX4_refusalOfPairs 5 = .ok (.iload_n 3, 1) := by decide +kernel
theorem dX4_refusalOfPairs_6 : decode cX4_refusalOfPairs 6 = .ok (.if_icmp .ge 86, 3) := by decide +kernel
theorem dX4_refusalOfPairs_9 : decode cX4_refusalOfPairs 9 = .ok (.aload_n 1, 1) := by decide +kernel
theorem dX4_refusalOfPairs_10 : decode cX4_refusalOfPairs 10 = .ok (.iload_n 2, 1) := by decide +kernel
theorem dX4_refusalOfPairs_11 : decode cX4_refusalOfPairs 11 = .ok (.iconst 2, 1) := by decide +kernel
theorem dX4_refusalOfPairs_12 : decode cX4_refusalOfPairs 12 = .ok (.iload 4, 2) := by decide +kernel
theorem dX4_refusalOfPairs_14 : decode cX4_refusalOfPairs 14 = .ok (.imul, 1) := by decide +kernel
theorem dX4_refusalOfPairs_15 : decode cX4_refusalOfPairs 15 = .ok (.iadd, 1) := by decide +kernel
theorem dX4_refusalOfPairs_16 : decode cX4_refusalOfPairs 16 = .ok (.invokevirtual 267, 3) := by decide +kernel
theorem dX4_refusalOfPairs_19 : decode cX4_refusalOfPairs 19 = .ok (.istore 5, 2) := by decide +kernel
theorem dX4_refusalOfPairs_21 : decode cX4_refusalOfPairs 21 = .ok (.aload_n 1, 1) := by decide +kernel
theorem dX4_refusalOfPairs_22 : decode cX4_refusalOfPairs 22 = .ok (.iload_n 2, 1) := by decide +kernel
theorem dX4_refusalOfPairs_23 : decode cX4_refusalOfPairs 23 = .ok (.iconst 2, 1) := by decide +kernel
theorem dX4_refusalOfPairs_24 : decode cX4_refusalOfPairs 24 = .ok (.iload 4, 2) := by decide +kernel
theorem dX4_refusalOfPairs_26 : decode cX4_refusalOfPairs 26 = .ok (.imul, 1) := by decide +kernel
theorem dX4_refusalOfPairs_27 : decode cX4_refusalOfPairs 27 = .ok (.iadd, 1) := by decide +kernel
theorem dX4_refusalOfPairs_28 : decode cX4_refusalOfPairs 28 = .ok (.iconst 1, 1) := by decide +kernel
theorem dX4_refusalOfPairs_29 : decode cX4_refusalOfPairs 29 = .ok (.iadd, 1) := by decide +kernel
theorem dX4_refusalOfPairs_30 : decode cX4_refusalOfPairs 30 = .ok (.invokevirtual 267, 3) := by decide +kernel
theorem dX4_refusalOfPairs_33 : decode cX4_refusalOfPairs 33 = .ok (.istore 6, 2) := by decide +kernel
theorem dX4_refusalOfPairs_35 : decode cX4_refusalOfPairs 35 = .ok (.iload 6, 2) := by decide +kernel
theorem dX4_refusalOfPairs_37 : decode cX4_refusalOfPairs 37 = .ok (.bipush 8, 2) := by decide +kernel
theorem dX4_refusalOfPairs_39 : decode cX4_refusalOfPairs 39 = .ok (.invokestatic 127, 3) := by decide +kernel
theorem dX4_refusalOfPairs_42 : decode cX4_refusalOfPairs 42 = .ok (.ifCond .ne 6, 3) := by decide +kernel
theorem dX4_refusalOfPairs_45 : decode cX4_refusalOfPairs 45 = .ok (.bipush (-2), 2) := by decide +kernel
theorem dX4_refusalOfPairs_47 : decode cX4_refusalOfPairs 47 = .ok (.ireturn, 1) := by decide +kernel
theorem dX4_refusalOfPairs_48 : decode cX4_refusalOfPairs 48 = .ok (.iload 6, 2) := by decide +kernel
theorem dX4_refusalOfPairs_50 : decode cX4_refusalOfPairs 50 = .ok (.bipush 8, 2) := by decide +kernel
theorem dX4_refusalOfPairs_52 : decode cX4_refusalOfPairs 52 = .ok (.if_icmp .ne 16, 3) := by decide +kernel
theorem dX4_refusalOfPairs_55 : decode cX4_refusalOfPairs 55 = .ok (.iload 5, 2) := by decide +kernel
theorem dX4_refusalOfPairs_57 : decode cX4_refusalOfPairs 57 = .ok (.bipush 9, 2) := by decide +kernel
theorem dX4_refusalOfPairs_59 : decode cX4_refusalOfPairs 59 = .ok (.invokestatic 127, 3) := by decide +kernel
theorem dX4_refusalOfPairs_62 : decode cX4_refusalOfPairs 62 = .ok (.ifCond .ne 6, 3) := by decide +kernel
theorem dX4_refusalOfPairs_65 : decode cX4_refusalOfPairs 65 = .ok (.bipush (-2), 2) := by decide +kernel
theorem dX4_refusalOfPairs_67 : decode cX4_refusalOfPairs 67 = .ok (.ireturn, 1) := by decide +kernel
theorem dX4_refusalOfPairs_68 : decode cX4_refusalOfPairs 68 = .ok (.iload 6, 2) := by decide +kernel
theorem dX4_refusalOfPairs_70 : decode cX4_refusalOfPairs 70 = .ok (.bipush 8, 2) := by decide +kernel
theorem dX4_refusalOfPairs_72 : decode cX4_refusalOfPairs 72 = .ok (.if_icmp .eq 14, 3) := by decide +kernel
theorem dX4_refusalOfPairs_75 : decode cX4_refusalOfPairs 75 = .ok (.aload_n 0, 1) := by decide +kernel
theorem dX4_refusalOfPairs_76 : decode cX4_refusalOfPairs 76 = .ok (.iload 5, 2) := by decide +kernel
theorem dX4_refusalOfPairs_78 : decode cX4_refusalOfPairs 78 = .ok (.invokevirtual 89, 3) := by decide +kernel
theorem dX4_refusalOfPairs_81 : decode cX4_refusalOfPairs 81 = .ok (.ifCond .ne 5, 3) := by decide +kernel
theorem dX4_refusalOfPairs_84 : decode cX4_refusalOfPairs 84 = .ok (.iconst (-1), 1) := by decide +kernel
theorem dX4_refusalOfPairs_85 : decode cX4_refusalOfPairs 85 = .ok (.ireturn, 1) := by decide +kernel
theorem dX4_refusalOfPairs_86 : decode cX4_refusalOfPairs 86 = .ok (.iinc 4 1, 3) := by decide +kernel
theorem dX4_refusalOfPairs_89 : decode cX4_refusalOfPairs 89 = .ok (.goto (-86), 3) := by decide +kernel
theorem dX4_refusalOfPairs_92 : decode cX4_refusalOfPairs 92 = .ok (.iconst 0, 1) := by decide +kernel
theorem dX4_refusalOfPairs_93 : decode cX4_refusalOfPairs 93 = .ok (.ireturn, 1) := by decide +kernel
theorem dX4_sailVoyage_0 : decode cX4_sailVoyage 0 = .ok (.iconst 0, 1) := by decide +kernel
theorem dX4_sailVoyage_1 : decode cX4_sailVoyage 1 = .ok (.istore 4, 2) := by decide +kernel
theorem dX4_sailVoyage_3 : decode cX4_sailVoyage 3 = .ok (.iload 4, 2) := by decide +kernel
theorem dX4_sailVoyage_5 : decode cX4_sailVoyage 5 = .ok (.aload_n 0, 1) := by decide +kernel
theorem dX4_sailVoyage_6 : decode cX4_sailVoyage 6 = .ok (.getfield 86, 3) := by decide +kernel
theorem dX4_sailVoyage_9 : decode cX4_sailVoyage 9 = .ok (.if_icmp .ge 26, 3) := by decide +kernel
theorem dX4_sailVoyage_12 : decode cX4_sailVoyage 12 = .ok (.aload_n 0, 1) := by decide +kernel
theorem dX4_sailVoyage_13 : decode cX4_sailVoyage 13 = .ok (.getfield 21, 3) := by decide +kernel
theorem dX4_sailVoyage_16 : decode cX4_sailVoyage 16 = .ok (.iload 4, 2) := by decide +kernel
theorem dX4_sailVoyage_18 : decode cX4_sailVoyage 18 = .ok (.aaload, 1) := by decide +kernel
theorem dX4_sailVoyage_19 : decode cX4_sailVoyage 19 = .ok (.aload_n 0, 1) := by decide +kernel
theorem dX4_sailVoyage_20 : decode cX4_sailVoyage 20 = .ok (.getfield 17, 3) := by decide +kernel
theorem dX4_sailVoyage_23 : decode cX4_sailVoyage 23 = .ok (.iload 4, 2) := by decide +kernel
theorem dX4_sailVoyage_25 : decode cX4_sailVoyage 25 = .ok (.aaload, 1) := by decide +kernel
theorem dX4_sailVoyage_26 : decode cX4_sailVoyage 26 = .ok (.invokevirtual 303, 3) := by decide +kernel
theorem dX4_sailVoyage_29 : decode cX4_sailVoyage 29 = .ok (.iinc 4 1, 3) := by decide +kernel
theorem dX4_sailVoyage_32 : decode cX4_sailVoyage 32 = .ok (.goto (-29), 3) := by decide +kernel
theorem dX4_sailVoyage_35 : decode cX4_sailVoyage 35 = .ok (.aload_n 0, 1) := by decide +kernel
theorem dX4_sailVoyage_36 : decode cX4_sailVoyage 36 = .ok (.getfield 27, 3) := by decide +kernel
theorem dX4_sailVoyage_39 : decode cX4_sailVoyage 39 = .ok (.invokevirtual 307, 3) := by decide +kernel
theorem dX4_sailVoyage_42 : decode cX4_sailVoyage 42 = .ok (.iconst 0, 1) := by decide +kernel
theorem dX4_sailVoyage_43 : decode cX4_sailVoyage 43 = .ok (.istore 4, 2) := by decide +kernel
theorem dX4_sailVoyage_45 : decode cX4_sailVoyage 45 = .ok (.iload 4, 2) := by decide +kernel
theorem dX4_sailVoyage_47 : decode cX4_sailVoyage 47 = .ok (.iload_n 3, 1) := by decide +kernel
theorem dX4_sailVoyage_48 : decode cX4_sailVoyage 48 = .ok (.if_icmp .ge 78, 3) := by decide +kernel
theorem dX4_sailVoyage_51 : decode cX4_sailVoyage 51 = .ok (.aload_n 1, 1) := by decide +kernel
theorem dX4_sailVoyage_52 : decode cX4_sailVoyage 52 = .ok (.iload_n 2, 1) := by decide +kernel
theorem dX4_sailVoyage_53 : decode cX4_sailVoyage 53 = .ok (.iconst 2, 1) := by decide +kernel
theorem dX4_sailVoyage_54 : decode cX4_sailVoyage 54 = .ok (.iload 4, 2) := by decide +kernel
theorem dX4_sailVoyage_56 : decode cX4_sailVoyage 56 = .ok (.imul, 1) := by decide +kernel
theorem dX4_sailVoyage_57 : decode cX4_sailVoyage 57 = .ok (.iadd, 1) := by decide +kernel
theorem dX4_sailVoyage_58 : decode cX4_sailVoyage 58 = .ok (.invokevirtual 267, 3) := by decide +kernel
theorem dX4_sailVoyage_61 : decode cX4_sailVoyage 61 = .ok (.istore 5, 2) := by decide +kernel
theorem dX4_sailVoyage_63 : decode cX4_sailVoyage 63 = .ok (.aload_n 1, 1) := by decide +kernel
theorem dX4_sailVoyage_64 : decode cX4_sailVoyage 64 = .ok (.iload_n 2, 1) := by decide +kernel
theorem dX4_sailVoyage_65 : decode cX4_sailVoyage 65 = .ok (.iconst 2, 1) := by decide +kernel
theorem dX4_sailVoyage_66 : decode cX4_sailVoyage 66 = .ok (.iload 4, 2) := by decide +kernel
theorem dX4_sailVoyage_68 : decode cX4_sailVoyage 68 = .ok (.imul, 1) := by decide +kernel
theorem dX4_sailVoyage_69 : decode cX4_sailVoyage 69 = .ok (.iadd, 1) := by decide +kernel
theorem dX4_sailVoyage_70 : decode cX4_sailVoyage 70 = .ok (.iconst 1, 1) := by decide +kernel
theorem dX4_sailVoyage_71 : decode cX4_sailVoyage 71 = .ok (.iadd, 1) := by decide +kernel
theorem dX4_sailVoyage_72 : decode cX4_sailVoyage 72 = .ok (.invokevirtual 267, 3) := by decide +kernel
theorem dX4_sailVoyage_75 : decode cX4_sailVoyage 75 = .ok (.istore 6, 2) := by decide +kernel
theorem dX4_sailVoyage_77 : decode cX4_sailVoyage 77 = .ok (.iload 6, 2) := by decide +kernel
theorem dX4_sailVoyage_79 : decode cX4_sailVoyage 79 = .ok (.bipush 8, 2) := by decide +kernel
theorem dX4_sailVoyage_81 : decode cX4_sailVoyage 81 = .ok (.if_icmp .ne 12, 3) := by decide +kernel
theorem dX4_sailVoyage_84 : decode cX4_sailVoyage 84 = .ok (.aload_n 0, 1) := by decide +kernel
theorem dX4_sailVoyage_85 : decode cX4_sailVoyage 85 = .ok (.iload 5, 2) := by decide +kernel
theorem dX4_sailVoyage_87 : decode cX4_sailVoyage 87 = .ok (.invokevirtual 309, 3) := by decide +kernel
theorem dX4_sailVoyage_90 : decode cX4_sailVoyage 90 = .ok (.goto 30, 3) := by decide +kernel
theorem dX4_sailVoyage_93 : decode cX4_sailVoyage 93 = .ok (.aload_n 0, 1) := by decide +kernel
theorem dX4_sailVoyage_94 : decode cX4_sailVoyage 94 = .ok (.iload 5, 2) := by decide +kernel
theorem dX4_sailVoyage_96 : decode cX4_sailVoyage 96 = .ok (.invokevirtual 89, 3) := by decide +kernel
theorem dX4_sailVoyage_99 : decode cX4_sailVoyage 99 = .ok (.ifCond .eq 18, 3) := by decide +kernel
theorem dX4_sailVoyage_102 : decode cX4_sailVoyage 102 = .ok (.aload_n 0, 1) := by decide +kernel
theorem dX4_sailVoyage_103 : decode cX4_sailVoyage 103 = .ok (.getfield 21, 3) := by decide +kernel
theorem dX4_sailVoyage_106 : decode cX4_sailVoyage 106 = .ok (.iload 5, 2) := by decide +kernel
theorem dX4_sailVoyage_108 : decode cX4_sailVoyage 108 = .ok (.aaload, 1) := by decide +kernel
theorem dX4_sailVoyage_109 : decode cX4_sailVoyage 109 = .ok (.iload 6, 2) := by decide +kernel
theorem dX4_sailVoyage_111 : decode cX4_sailVoyage 111 = .ok (.invokevirtual 313, 3) := by decide +kernel
theorem dX4_sailVoyage_114 : decode cX4_sailVoyage 114 = .ok (.ifCond .ne 6, 3) := by decide +kernel
theorem dX4_sailVoyage_117 : decode cX4_sailVoyage 117 = .ok (.iload 4, 2) := by decide +kernel
theorem dX4_sailVoyage_119 : decode cX4_sailVoyage 119 = .ok (.ireturn, 1) := by decide +kernel
theorem dX4_sailVoyage_120 : decode cX4_sailVoyage 120 = .ok (.iinc 4 1, 3) := by decide +kernel
theorem dX4_sailVoyage_123 : decode cX4_sailVoyage 123 = .ok (.goto (-78), 3) := by decide +kernel
theorem dX4_sailVoyage_126 : decode cX4_sailVoyage 126 = .ok (.bipush (-9), 2) := by decide +kernel
theorem dX4_sailVoyage_128 : decode cX4_sailVoyage 128 = .ok (.ireturn, 1) := by decide +kernel
theorem dX4_sailToldDays_0 : decode cX4_sailToldDays 0 = .ok (.iconst 0, 1) := by decide +kernel
theorem dX4_sailToldDays_1 : decode cX4_sailToldDays 1 = .ok (.istore_n 2, 1) := by decide +kernel
theorem dX4_sailToldDays_2 : decode cX4_sailToldDays 2 = .ok (.iload_n 2, 1) := by decide +kernel
theorem dX4_sailToldDays_3 : decode cX4_sailToldDays 3 = .ok (.iload_n 1, 1) := by decide +kernel
theorem dX4_sailToldDays_4 : decode cX4_sailToldDays 4 = .ok (.if_icmp .ge 73, 3) := by decide +kernel
theorem dX4_sailToldDays_7 : decode cX4_sailToldDays 7 = .ok (.iconst 0, 1) := by decide +kernel
theorem dX4_sailToldDays_8 : decode cX4_sailToldDays 8 = .ok (.istore_n 3, 1) := by decide +kernel
theorem dX4_sailToldDays_9 : decode cX4_sailToldDays 9 = .ok (.iload_n 3, 1) := by decide +kernel
theorem dX4_sailToldDays_10 : decode cX4_sailToldDays 10 = .ok (.aload_n 0, 1) := by decide +kernel
theorem dX4_sailToldDays_11 : decode cX4_sailToldDays 11 = .ok (.getfield 86, 3) := by decide +kernel
theorem dX4_sailToldDays_14 : decode cX4_sailToldDays 14 = .ok (.if_icmp .ge 57, 3) := by decide +kernel
theorem dX4_sailToldDays_17 : decode cX4_sailToldDays 17 = .ok (.aload_n 0, 1) := by decide +kernel
theorem dX4_sailToldDays_18 : decode cX4_sailToldDays 18 = .ok (.aload_n 0, 1) := by decide +kernel
theorem dX4_sailToldDays_19 : decode cX4_sailToldDays 19 = .ok (.getfield 21, 3) := by decide +kernel
theorem dX4_sailToldDays_22 : decode cX4_sailToldDays 22 = .ok (.iload_n 3, 1) := by decide +kernel
theorem dX4_sailToldDays_23 : decode cX4_sailToldDays 23 = .ok (.aaload, 1) := by decide +kernel
theorem dX4_sailToldDays_24 : decode cX4_sailToldDays 24 = .ok (.invokevirtual 133, 3) := by decide +kernel
theorem dX4_sailToldDays_27 : decode cX4_sailToldDays 27 = .ok (.istore 4, 2) := by decide +kernel
theorem dX4_sailToldDays_29 : decode cX4_sailToldDays 29 = .ok (.iload 4, 2) := by decide +kernel
theorem dX4_sailToldDays_31 : decode cX4_sailToldDays 31 = .ok (.bipush (-9), 2) := by decide +kernel
theorem dX4_sailToldDays_33 : decode cX4_sailToldDays 33 = .ok (.if_icmp .eq 32, 3) := by decide +kernel
theorem dX4_sailToldDays_36 : decode cX4_sailToldDays 36 = .ok (.aload_n 0, 1) := by decide +kernel
theorem dX4_sailToldDays_37 : decode cX4_sailToldDays 37 = .ok (.getfield 27, 3) := by decide +kernel
theorem dX4_sailToldDays_40 : decode cX4_sailToldDays 40 = .ok (.iload_n 3, 1) := by decide +kernel
theorem dX4_sailToldDays_41 : decode cX4_sailToldDays 41 = .ok (.iload 4, 2) := by decide +kernel
theorem dX4_sailToldDays_43 : decode cX4_sailToldDays 43 = .ok (.iload 4, 2) := by decide +kernel
theorem dX4_sailToldDays_45 : decode cX4_sailToldDays 45 = .ok (.aload_n 0, 1) := by decide +kernel
theorem dX4_sailToldDays_46 : decode cX4_sailToldDays 46 = .ok (.getfield 21, 3) := by decide +kernel
theorem dX4_sailToldDays_49 : decode cX4_sailToldDays 49 = .ok (.iload_n 3, 1) := by decide +kernel
theorem dX4_sailToldDays_50 : decode cX4_sailToldDays 50 = .ok (.aaload, 1) := by decide +kernel
theorem dX4_sailToldDays_51 : decode cX4_sailToldDays 51 = .ok (.getfield 95, 3) := by decide +kernel
theorem dX4_sailToldDays_54 : decode cX4_sailToldDays 54 = .ok (.if_icmp .ne 7, 3) := by decide +kernel
theorem dX4_sailToldDays_57 : decode cX4_sailToldDays 57 = .ok (.iconst 1, 1) := by decide +kernel
theorem dX4_sailToldDays_58 : decode cX4_sailToldDays 58 = .ok (.goto 4, 3) := by decide +kernel
theorem dX4_sailToldDays_61 : decode cX4_sailToldDays 61 = .ok (.iconst 0, 1) := by decide +kernel
theorem dX4_sailToldDays_62 : decode cX4_sailToldDays 62 = .ok (.invokevirtual 316, 3) := by decide +kernel
theorem dX4_sailToldDays_65 : decode cX4_sailToldDays 65 = .ok (.iinc 3 1, 3) := by decide +kernel
theorem dX4_sailToldDays_68 : decode cX4_sailToldDays 68 = .ok (.goto (-59), 3) := by decide +kernel
theorem dX4_sailToldDays_71 : decode cX4_sailToldDays 71 = .ok (.iinc 2 1, 3) := by decide +kernel
theorem dX4_sailToldDays_74 : decode cX4_sailToldDays 74 = .ok (.goto (-72), 3) := by decide +kernel
theorem dX4_sailToldDays_77 : decode cX4_sailToldDays 77 = .ok (.return_, 1) := by decide +kernel
theorem dX4_ofVoyage_0 : decode cX4_ofVoyage 0 = .ok (.iload_n 1, 1) := by decide +kernel
theorem dX4_ofVoyage_1 : decode cX4_ofVoyage 1 = .ok (.tableswitch 68 0 4 #[35, 68, 43, 52, 60], 35) := by decide +kernel
theorem dX4_ofVoyage_36 : decode cX4_ofVoyage 36 = .ok (.aload_n 0, 1) := by decide +kernel
theorem dX4_ofVoyage_37 : decode cX4_ofVoyage 37 = .ok (.getfield 27, 3) := by decide +kernel
theorem dX4_ofVoyage_40 : decode cX4_ofVoyage 40 = .ok (.getfield 320, 3) := by decide +kernel
theorem dX4_ofVoyage_43 : decode cX4_ofVoyage 43 = .ok (.ireturn, 1) := by decide +kernel
theorem dX4_ofVoyage_44 : decode cX4_ofVoyage 44 = .ok (.aload_n 0, 1) := by decide +kernel
theorem dX4_ofVoyage_45 : decode cX4_ofVoyage 45 = .ok (.aload_n 0, 1) := by decide +kernel
theorem dX4_ofVoyage_46 : decode cX4_ofVoyage 46 = .ok (.getfield 21, 3) := by decide +kernel
theorem dX4_ofVoyage_49 : decode cX4_ofVoyage 49 = .ok (.invokevirtual 258, 3) := by decide +kernel
theorem dX4_ofVoyage_52 : decode cX4_ofVoyage 52 = .ok (.ireturn, 1) := by decide +kernel
theorem dX4_ofVoyage_53 : decode cX4_ofVoyage 53 = .ok (.aload_n 0, 1) := by decide +kernel
theorem dX4_ofVoyage_54 : decode cX4_ofVoyage 54 = .ok (.getfield 27, 3) := by decide +kernel
theorem dX4_ofVoyage_57 : decode cX4_ofVoyage 57 = .ok (.getfield 323, 3) := by decide +kernel
theorem dX4_ofVoyage_60 : decode cX4_ofVoyage 60 = .ok (.ireturn, 1) := by decide +kernel
theorem dX4_ofVoyage_61 : decode cX4_ofVoyage 61 = .ok (.aload_n 0, 1) := by decide +kernel
theorem dX4_ofVoyage_62 : decode cX4_ofVoyage 62 = .ok (.getfield 27, 3) := by decide +kernel
theorem dX4_ofVoyage_65 : decode cX4_ofVoyage 65 = .ok (.getfield 326, 3) := by decide +kernel
theorem dX4_ofVoyage_68 : decode cX4_ofVoyage 68 = .ok (.ireturn, 1) := by decide +kernel
theorem dX4_ofVoyage_69 : decode cX4_ofVoyage 69 = .ok (.aload_n 0, 1) := by decide +kernel
theorem dX4_ofVoyage_70 : decode cX4_ofVoyage 70 = .ok (.iload_n 1, 1) := by decide +kernel
theorem dX4_ofVoyage_71 : decode cX4_ofVoyage 71 = .ok (.bipush 10, 2) := by decide +kernel
theorem dX4_ofVoyage_73 : decode cX4_ofVoyage 73 = .ok (.isub, 1) := by decide +kernel
theorem dX4_ofVoyage_74 : decode cX4_ofVoyage 74 = .ok (.invokevirtual 89, 3) := by decide +kernel
theorem dX4_ofVoyage_77 : decode cX4_ofVoyage 77 = .ok (.ifCond .eq 18, 3) := by decide +kernel
theorem dX4_ofVoyage_80 : decode cX4_ofVoyage 80 = .ok (.aload_n 0, 1) := by decide +kernel
theorem dX4_ofVoyage_81 : decode cX4_ofVoyage 81 = .ok (.getfield 21, 3) := by decide +kernel
theorem dX4_ofVoyage_84 : decode cX4_ofVoyage 84 = .ok (.iload_n 1, 1) := by decide +kernel
theorem dX4_ofVoyage_85 : decode cX4_ofVoyage 85 = .ok (.bipush 10, 2) := by decide +kernel
theorem dX4_ofVoyage_87 : decode cX4_ofVoyage 87 = .ok (.isub, 1) := by decide +kernel
theorem dX4_ofVoyage_88 : decode cX4_ofVoyage 88 = .ok (.aaload, 1) := by decide +kernel
theorem dX4_ofVoyage_89 : decode cX4_ofVoyage 89 = .ok (.invokevirtual 112, 3) := by decide +kernel
theorem dX4_ofVoyage_92 : decode cX4_ofVoyage 92 = .ok (.goto 5, 3) := by decide +kernel
theorem dX4_ofVoyage_95 : decode cX4_ofVoyage 95 = .ok (.bipush (-9), 2) := by decide +kernel
theorem dX4_ofVoyage_97 : decode cX4_ofVoyage 97 = .ok (.ireturn, 1) := by decide +kernel
theorem dX4_readingsAreSo_0 : decode cX4_readingsAreSo 0 = .ok (.iconst 0, 1) := by decide +kernel
theorem dX4_readingsAreSo_1 : decode cX4_readingsAreSo 1 = .ok (.istore_n 3, 1) := by decide +kernel
theorem dX4_readingsAreSo_2 : decode cX4_readingsAreSo 2 = .ok (.iload_n 3, 1) := by decide +kernel
theorem dX4_readingsAreSo_3 : decode cX4_readingsAreSo 3 = .ok (.aload_n 0, 1) := by decide +kernel
theorem dX4_readingsAreSo_4 : decode cX4_readingsAreSo 4 = .ok (.getfield 181, 3) := by decide +kernel
theorem dX4_readingsAreSo_7 : decode cX4_readingsAreSo 7 = .ok (.if_icmp .ge 75, 3) := by decide +kernel
theorem dX4_readingsAreSo_10 : decode cX4_readingsAreSo 10 = .ok (.aload_n 0, 1) := by decide +kernel
theorem dX4_readingsAreSo_11 : decode cX4_readingsAreSo 11 = .ok (.getfield 41, 3) := by decide +kernel
theorem dX4_readingsAreSo_14 : decode cX4_readingsAreSo 14 = .ok (.iload_n 3, 1) := by decide +kernel
theorem dX4_readingsAreSo_15 : decode cX4_readingsAreSo 15 = .ok (.iaload, 1) := by decide +kernel
theorem dX4_readingsAreSo_16 : decode cX4_readingsAreSo 16 = .ok (.iload_n 1, 1) := by decide +kernel
theorem dX4_readingsAreSo_17 : decode cX4_readingsAreSo 17 = .ok (.if_icmp .ne 7, 3) := by decide +kernel
theorem dX4_readingsAreSo_20 : decode cX4_readingsAreSo 20 = .ok (.iload_n 2, 1) := by decide +kernel
theorem dX4_readingsAreSo_21 : decode cX4_readingsAreSo 21 = .ok (.goto 17, 3) := by decide +kernel
theorem dX4_readingsAreSo_24 : decode cX4_readingsAreSo 24 = .ok (.aload_n 0, 1) := by decide +kernel
theorem dX4_readingsAreSo_25 : decode cX4_readingsAreSo 25 = .ok (.getfield 17, 3) := by decide +kernel
theorem dX4_readingsAreSo_28 : decode cX4_readingsAreSo 28 = .ok (.aload_n 0, 1) := by decide +kernel
theorem dX4_readingsAreSo_29 : decode cX4_readingsAreSo 29 = .ok (.getfield 41, 3) := by decide +kernel
theorem dX4_readingsAreSo_32 : decode cX4_readingsAreSo 32 = .ok (.iload_n 3, 1) := by decide +kernel
theorem dX4_readingsAreSo_33 : decode cX4_readingsAreSo 33 = .ok (.iaload, 1) := by decide +kernel
theorem dX4_readingsAreSo_34 : decode cX4_readingsAreSo 34 = .ok (.aaload, 1) := by decide +kernel
theorem dX4_readingsAreSo_35 : decode cX4_readingsAreSo 35 = .ok (.invokevirtual 101, 3) := by decide +kernel
theorem dX4_readingsAreSo_38 : decode cX4_readingsAreSo 38 = .ok (.istore 4, 2) := by decide +kernel
theorem dX4_readingsAreSo_40 : decode cX4_readingsAreSo 40 = .ok (.aload_n 0, 1) := by decide +kernel
theorem dX4_readingsAreSo_41 : decode cX4_readingsAreSo 41 = .ok (.getfield 11, 3) := by decide +kernel
theorem dX4_readingsAreSo_44 : decode cX4_readingsAreSo 44 = .ok (.aload_n 0, 1) := by decide +kernel
theorem dX4_readingsAreSo_45 : decode cX4_readingsAreSo 45 = .ok (.getfield 44, 3) := by decide +kernel
theorem dX4_readingsAreSo_48 : decode cX4_readingsAreSo 48 = .ok (.iload_n 3, 1) := by decide +kernel
theorem dX4_readingsAreSo_49 : decode cX4_readingsAreSo 49 = .ok (.iaload, 1) := by decide +kernel
theorem dX4_readingsAreSo_50 : decode cX4_readingsAreSo 50 = .ok (.iaload, 1) := by decide +kernel
theorem dX4_readingsAreSo_51 : decode cX4_readingsAreSo 51 = .ok (.iload 4, 2) := by decide +kernel
theorem dX4_readingsAreSo_53 : decode cX4_readingsAreSo 53 = .ok (.if_icmp .le 7, 3) := by decide +kernel
theorem dX4_readingsAreSo_56 : decode cX4_readingsAreSo 56 = .ok (.iconst 1, 1) := by decide +kernel
theorem dX4_readingsAreSo_57 : decode cX4_readingsAreSo 57 = .ok (.goto 4, 3) := by decide +kernel
theorem dX4_readingsAreSo_60 : decode cX4_readingsAreSo 60 = .ok (.iconst 0, 1) := by decide +kernel
theorem dX4_readingsAreSo_61 : decode cX4_readingsAreSo 61 = .ok (.istore 5, 2) := by decide +kernel
theorem dX4_readingsAreSo_63 : decode cX4_readingsAreSo 63 = .ok (.iload 5, 2) := by decide +kernel
theorem dX4_readingsAreSo_65 : decode cX4_readingsAreSo 65 = .ok (.aload_n 0, 1) := by decide +kernel
theorem dX4_readingsAreSo_66 : decode cX4_readingsAreSo 66 = .ok (.getfield 47, 3) := by decide +kernel
theorem dX4_readingsAreSo_69 : decode cX4_readingsAreSo 69 = .ok (.iload_n 3, 1) := by decide +kernel
theorem dX4_readingsAreSo_70 : decode cX4_readingsAreSo 70 = .ok (.iaload, 1) := by decide +kernel
theorem dX4_readingsAreSo_71 : decode cX4_readingsAreSo 71 = .ok (.if_icmp .eq 5, 3) := by decide +kernel
theorem dX4_readingsAreSo_74 : decode cX4_readingsAreSo 74 = .ok (.iconst 0, 1) := by decide +kernel
theorem dX4_readingsAreSo_75 : decode cX4_readingsAreSo 75 = .ok (.ireturn, 1) := by decide +kernel
theorem dX4_readingsAreSo_76 : decode cX4_readingsAreSo 76 = .ok (.iinc 3 1, 3) := by decide +kernel
theorem dX4_readingsAreSo_79 : decode cX4_readingsAreSo 79 = .ok (.goto (-77), 3) := by decide +kernel
theorem dX4_readingsAreSo_82 : decode cX4_readingsAreSo 82 = .ok (.iconst 1, 1) := by decide +kernel
theorem dX4_readingsAreSo_83 : decode cX4_readingsAreSo 83 = .ok (.ireturn, 1) := by decide +kernel
theorem dX4_ofShare_0 : decode cX4_ofShare 0 = .ok (.iload_n 0, 1) := by decide +kernel
theorem dX4_ofShare_1 : decode cX4_ofShare 1 = .ok (.iload_n 1, 1) := by decide +kernel
theorem dX4_ofShare_2 : decode cX4_ofShare 2 = .ok (.invokestatic 329, 3) := by decide +kernel
theorem dX4_ofShare_5 : decode cX4_ofShare 5 = .ok (.istore_n 3, 1) := by decide +kernel
theorem dX4_ofShare_6 : decode cX4_ofShare 6 = .ok (.iload_n 2, 1) := by decide +kernel
theorem dX4_ofShare_7 : decode cX4_ofShare 7 = .ok (.ifCond .ne 7, 3) := by decide +kernel
theorem dX4_ofShare_10 : decode cX4_ofShare 10 = .ok (.iload_n 0, 1) := by decide +kernel
theorem dX4_ofShare_11 : decode cX4_ofShare 11 = .ok (.goto 4, 3) := by decide +kernel
theorem dX4_ofShare_14 : decode cX4_ofShare 14 = .ok (.iload_n 1, 1) := by decide +kernel
theorem dX4_ofShare_15 : decode cX4_ofShare 15 = .ok (.iload_n 3, 1) := by decide +kernel
theorem dX4_ofShare_16 : decode cX4_ofShare 16 = .ok (.idiv, 1) := by decide +kernel
theorem dX4_ofShare_17 : decode cX4_ofShare 17 = .ok (.i2l, 1) := by decide +kernel
theorem dX4_ofShare_18 : decode cX4_ofShare 18 = .ok (.lreturn, 1) := by decide +kernel
theorem dX4_commonDivisor_0 : decode cX4_commonDivisor 0 = .ok (.iload_n 1, 1) := by decide +kernel
theorem dX4_commonDivisor_1 : decode cX4_commonDivisor 1 = .ok (.istore_n 2, 1) := by decide +kernel
theorem dX4_commonDivisor_2 : decode cX4_commonDivisor 2 = .ok (.iload_n 2, 1) := by decide +kernel
theorem dX4_commonDivisor_3 : decode cX4_commonDivisor 3 = .ok (.iconst 1, 1) := by decide +kernel
theorem dX4_commonDivisor_4 : decode cX4_commonDivisor 4 = .ok (.if_icmp .le 23, 3) := by decide +kernel
theorem dX4_commonDivisor_7 : decode cX4_commonDivisor 7 = .ok (.iload_n 0, 1) := by decide +kernel
theorem dX4_commonDivisor_8 : decode cX4_commonDivisor 8 = .ok (.iload_n 2, 1) := by decide +kernel
theorem dX4_commonDivisor_9 : decode cX4_commonDivisor 9 = .ok (.irem, 1) := by decide +kernel
theorem dX4_commonDivisor_10 : decode cX4_commonDivisor 10 = .ok (.ifCond .ne 11, 3) := by decide +kernel
theorem dX4_commonDivisor_13 : decode cX4_commonDivisor 13 = .ok (.iload_n 1, 1) := by decide +kernel
theorem dX4_commonDivisor_14 : decode cX4_commonDivisor 14 = .ok (.iload_n 2, 1) := by decide +kernel
theorem dX4_commonDivisor_15 : decode cX4_commonDivisor 15 = .ok (.irem, 1) := by decide +kernel
theorem dX4_commonDivisor_16 : decode cX4_commonDivisor 16 = .ok (.ifCond .ne 5, 3) := by decide +kernel
theorem dX4_commonDivisor_19 : decode cX4_commonDivisor 19 = .ok (.iload_n 2, 1) := by decide +kernel
theorem dX4_commonDivisor_20 : decode cX4_commonDivisor 20 = .ok (.ireturn, 1) := by decide +kernel
theorem dX4_commonDivisor_21 : decode cX4_commonDivisor 21 = .ok (.iinc 2 (-1), 3) := by decide +kernel
theorem dX4_commonDivisor_24 : decode cX4_commonDivisor 24 = .ok (.goto (-22), 3) := by decide +kernel
theorem dX4_commonDivisor_27 : decode cX4_commonDivisor 27 = .ok (.iconst 1, 1) := by decide +kernel
theorem dX4_commonDivisor_28 : decode cX4_commonDivisor 28 = .ok (.ireturn, 1) := by decide +kernel
theorem dX4_leave_0 : decode cX4_leave 0 = .ok (.aload_n 0, 1) := by decide +kernel
theorem dX4_leave_1 : decode cX4_leave 1 = .ok (.bipush 31, 2) := by decide +kernel
theorem dX4_leave_3 : decode cX4_leave 3 = .ok (.aload_n 0, 1) := by decide +kernel
theorem dX4_leave_4 : decode cX4_leave 4 = .ok (.getfield 255, 3) := by decide +kernel
theorem dX4_leave_7 : decode cX4_leave 7 = .ok (.imul, 1) := by decide +kernel
theorem dX4_leave_8 : decode cX4_leave 8 = .ok (.iload_n 1, 1) := by decide +kernel
theorem dX4_leave_9 : decode cX4_leave 9 = .ok (.iadd, 1) := by decide +kernel
theorem dX4_leave_10 : decode cX4_leave 10 = .ok (.putfield 255, 3) := by decide +kernel
theorem dX4_leave_13 : decode cX4_leave 13 = .ok (.return_, 1) := by decide +kernel
theorem dX4_tellBarge_0 : decode cX4_tellBarge 0 = .ok (.aload_n 0, 1) := by decide +kernel
theorem dX4_tellBarge_1 : decode cX4_tellBarge 1 = .ok (.iconst 1, 1) := by decide +kernel
theorem dX4_tellBarge_2 : decode cX4_tellBarge 2 = .ok (.invokevirtual 332, 3) := by decide +kernel
theorem dX4_tellBarge_5 : decode cX4_tellBarge 5 = .ok (.aload_n 1, 1) := by decide +kernel
theorem dX4_tellBarge_6 : decode cX4_tellBarge 6 = .ok (.getfield 98, 3) := by decide +kernel
theorem dX4_tellBarge_9 : decode cX4_tellBarge 9 = .ok (.ireturn, 1) := by decide +kernel
theorem dX4_tellCutter_0 : decode cX4_tellCutter 0 = .ok (.aload_n 0, 1) := by decide +kernel
theorem dX4_tellCutter_1 : decode cX4_tellCutter 1 = .ok (.iconst 2, 1) := by decide +kernel
theorem dX4_tellCutter_2 : decode cX4_tellCutter 2 = .ok (.invokevirtual 332, 3) := by decide +kernel
theorem dX4_tellCutter_5 : decode cX4_tellCutter 5 = .ok (.aload_n 0, 1) := by decide +kernel
theorem dX4_tellCutter_6 : decode cX4_tellCutter 6 = .ok (.aload_n 1, 1) := by decide +kernel
theorem dX4_tellCutter_7 : decode cX4_tellCutter 7 = .ok (.invokevirtual 246, 3) := by decide +kernel
theorem dX4_tellCutter_10 : decode cX4_tellCutter 10 = .ok (.bipush 100, 2) := by decide +kernel
theorem dX4_tellCutter_12 : decode cX4_tellCutter 12 = .ok (.iadd, 1) := by decide +kernel
theorem dX4_tellCutter_13 : decode cX4_tellCutter 13 = .ok (.ireturn, 1) := by decide +kernel
theorem dX4_tellSloop_0 : decode cX4_tellSloop 0 = .ok (.aload_n 0, 1) := by decide +kernel
theorem dX4_tellSloop_1 : decode cX4_tellSloop 1 = .ok (.iconst 3, 1) := by decide +kernel
theorem dX4_tellSloop_2 : decode cX4_tellSloop 2 = .ok (.invokevirtual 332, 3) := by decide +kernel
theorem dX4_tellSloop_5 : decode cX4_tellSloop 5 = .ok (.aload_n 0, 1) := by decide +kernel
theorem dX4_tellSloop_6 : decode cX4_tellSloop 6 = .ok (.aload_n 1, 1) := by decide +kernel
theorem dX4_tellSloop_7 : decode cX4_tellSloop 7 = .ok (.invokevirtual 243, 3) := by decide +kernel
theorem dX4_tellSloop_10 : decode cX4_tellSloop 10 = .ok (.istore_n 2, 1) := by decide +kernel
theorem dX4_tellSloop_11 : decode cX4_tellSloop 11 = .ok (.iload_n 2, 1) := by decide +kernel
theorem dX4_tellSloop_12 : decode cX4_tellSloop 12 = .ok (.aload_n 0, 1) := by decide +kernel
theorem dX4_tellSloop_13 : decode cX4_tellSloop 13 = .ok (.aload_n 1, 1) := by decide +kernel
theorem dX4_tellSloop_14 : decode cX4_tellSloop 14 = .ok (.invokevirtual 246, 3) := by decide +kernel
theorem dX4_tellSloop_17 : decode cX4_tellSloop 17 = .ok (.iadd, 1) := by decide +kernel
theorem dX4_tellSloop_18 : decode cX4_tellSloop 18 = .ok (.ireturn, 1) := by decide +kernel
theorem dX4_hailLent_0 : decode cX4_hailLent 0 = .ok (.aload_n 0, 1) := by decide +kernel
theorem dX4_hailLent_1 : decode cX4_hailLent 1 = .ok (.iconst 4, 1) := by decide +kernel
theorem dX4_hailLent_2 : decode cX4_hailLent 2 = .ok (.invokevirtual 332, 3) := by decide +kernel
theorem dX4_hailLent_5 : decode cX4_hailLent 5 = .ok (.aload_n 1, 1) := by decide +kernel
theorem dX4_hailLent_6 : decode cX4_hailLent 6 = .ok (.getfield 95, 3) := by decide +kernel
theorem dX4_hailLent_9 : decode cX4_hailLent 9 = .ok (.ireturn, 1) := by decide +kernel
theorem dX4_hailSloop_0 : decode cX4_hailSloop 0 = .ok (.aload_n 0, 1) := by decide +kernel
theorem dX4_hailSloop_1 : decode cX4_hailSloop 1 = .ok (.iconst 5, 1) := by decide +kernel
theorem dX4_hailSloop_2 : decode cX4_hailSloop 2 = .ok (.invokevirtual 332, 3) := by decide +kernel
theorem dX4_hailSloop_5 : decode cX4_hailSloop 5 = .ok (.bipush 60, 2) := by decide +kernel
theorem dX4_hailSloop_7 : decode cX4_hailSloop 7 = .ok (.ireturn, 1) := by decide +kernel
theorem dX4_cutTo_0 : decode cX4_cutTo 0 = .ok (.iload_n 0, 1) := by decide +kernel
theorem dX4_cutTo_1 : decode cX4_cutTo 1 = .ok (.lookupswitch 33 #[(0, 27), (1, 30)], 27) := by decide +kernel
theorem dX4_cutTo_28 : decode cX4_cutTo 28 = .ok (.iload_n 1, 1) := by decide +kernel
theorem dX4_cutTo_29 : decode cX4_cutTo 29 = .ok (.i2b, 1) := by decide +kernel
theorem dX4_cutTo_30 : decode cX4_cutTo 30 = .ok (.ireturn, 1) := by decide +kernel
theorem dX4_cutTo_31 : decode cX4_cutTo 31 = .ok (.iload_n 1, 1) := by decide +kernel
theorem dX4_cutTo_32 : decode cX4_cutTo 32 = .ok (.i2s, 1) := by decide +kernel
theorem dX4_cutTo_33 : decode cX4_cutTo 33 = .ok (.ireturn, 1) := by decide +kernel
theorem dX4_cutTo_34 : decode cX4_cutTo 34 = .ok (.iload_n 1, 1) := by decide +kernel
theorem dX4_cutTo_35 : decode cX4_cutTo 35 = .ok (.ireturn, 1) := by decide +kernel
theorem dX5_init_0 : decode cX5_init 0 = .ok (.aload_n 0, 1) := by decide +kernel
theorem dX5_init_1 : decode cX5_init 1 = .ok (.invokespecial 1, 3) := by decide +kernel
theorem dX5_init_4 : decode cX5_init 4 = .ok (.aload_n 0, 1) := by decide +kernel
theorem dX5_init_5 : decode cX5_init 5 = .ok (.iconst 4, 1) := by decide +kernel
theorem dX5_init_6 : decode cX5_init 6 = .ok (.newarray .int, 2) := by decide +kernel
theorem dX5_init_8 : decode cX5_init 8 = .ok (.dup, 1) := by decide +kernel
theorem dX5_init_9 : decode cX5_init 9 = .ok (.iconst 0, 1) := by decide +kernel
theorem dX5_init_10 : decode cX5_init 10 = .ok (.bipush (-9), 2) := by decide +kernel
theorem dX5_init_12 : decode cX5_init 12 = .ok (.iastore, 1) := by decide +kernel
theorem dX5_init_13 : decode cX5_init 13 = .ok (.dup, 1) := by decide +kernel
theorem dX5_init_14 : decode cX5_init 14 = .ok (.iconst 1, 1) := by decide +kernel
theorem dX5_init_15 : decode cX5_init 15 = .ok (.bipush (-9), 2) := by decide +kernel
theorem dX5_init_17 : decode cX5_init 17 = .ok (.iastore, 1) := by decide +kernel
theorem dX5_init_18 : decode cX5_init 18 = .ok (.dup, 1) := by decide +kernel
theorem dX5_init_19 : decode cX5_init 19 = .ok (.iconst 2, 1) := by decide +kernel
theorem dX5_init_20 : decode cX5_init 20 = .ok (.bipush (-9), 2) := by decide +kernel
theorem dX5_init_22 : decode cX5_init 22 = .ok (.iastore, 1) := by decide +kernel
theorem dX5_init_23 : decode cX5_init 23 = .ok (.dup, 1) := by decide +kernel
theorem dX5_init_24 : decode cX5_init 24 = .ok (.iconst 3, 1) := by decide +kernel
theorem dX5_init_25 : decode cX5_init 25 = .ok (.bipush (-9), 2) := by decide +kernel
theorem dX5_init_27 : decode cX5_init 27 = .ok (.iastore, 1) := by decide +kernel
theorem dX5_init_28 : decode cX5_init 28 = .ok (.putfield 9, 3) := by decide +kernel
theorem dX5_init_31 : decode cX5_init 31 = .ok (.aload_n 0, 1) := by decide +kernel
theorem dX5_init_32 : decode cX5_init 32 = .ok (.iconst 4, 1) := by decide +kernel
theorem dX5_init_33 : decode cX5_init 33 = .ok (.newarray .int, 2) := by decide +kernel
theorem dX5_init_35 : decode cX5_init 35 = .ok (.putfield 13, 3) := by decide +kernel
theorem dX5_init_38 : decode cX5_init 38 = .ok (.aload_n 0, 1) := by decide +kernel
theorem dX5_init_39 : decode cX5_init 39 = .ok (.sipush 240, 3) := by decide +kernel
theorem dX5_init_42 : decode cX5_init 42 = .ok (.newarray .int, 2) := by decide +kernel
theorem dX5_init_44 : decode cX5_init 44 = .ok (.putfield 16, 3) := by decide +kernel
theorem dX5_init_47 : decode cX5_init 47 = .ok (.aload_n 0, 1) := by decide +kernel
theorem dX5_init_48 : decode cX5_init 48 = .ok (.bipush 6, 2) := by decide +kernel
theorem dX5_init_50 : decode cX5_init 50 = .ok (.newarray .int, 2) := by decide +kernel
theorem dX5_init_52 : decode cX5_init 52 = .ok (.putfield 19, 3) := by decide +kernel
theorem dX5_init_55 : decode cX5_init 55 = .ok (.aload_n 0, 1) := by decide +kernel
theorem dX5_init_56 : decode cX5_init 56 = .ok (.iconst 5, 1) := by decide +kernel
theorem dX5_init_57 : decode cX5_init 57 = .ok (.newarray .int, 2) := by decide +kernel
theorem dX5_init_59 : decode cX5_init 59 = .ok (.putfield 22, 3) := by decide +kernel
theorem dX5_init_62 : decode cX5_init 62 = .ok (.aload_n 0, 1) := by decide +kernel
theorem dX5_init_63 : decode cX5_init 63 = .ok (.iconst 5, 1) := by decide +kernel
theorem dX5_init_64 : decode cX5_init 64 = .ok (.newarray .int, 2) := by decide +kernel
theorem dX5_init_66 : decode cX5_init 66 = .ok (.putfield 25, 3) := by decide +kernel
theorem dX5_init_69 : decode cX5_init 69 = .ok (.aload_n 0, 1) := by decide +kernel
theorem dX5_init_70 : decode cX5_init 70 = .ok (.iconst 5, 1) := by decide +kernel
theorem dX5_init_71 : decode cX5_init 71 = .ok (.newarray .int, 2) := by decide +kernel
theorem dX5_init_73 : decode cX5_init 73 = .ok (.putfield 28, 3) := by decide +kernel
theorem dX5_init_76 : decode cX5_init 76 = .ok (.aload_n 0, 1) := by decide +kernel
theorem dX5_init_77 : decode cX5_init 77 = .ok (.iconst 5, 1) := by decide +kernel
theorem dX5_init_78 : decode cX5_init 78 = .ok (.newarray .int, 2) := by decide +kernel
theorem dX5_init_80 : decode cX5_init 80 = .ok (.putfield 31, 3) := by decide +kernel
theorem dX5_init_83 : decode cX5_init 83 = .ok (.aload_n 0, 1) := by decide +kernel
theorem dX5_init_84 : decode cX5_init 84 = .ok (.bipush 20, 2) := by decide +kernel
theorem dX5_init_86 : decode cX5_init 86 = .ok (.newarray .int, 2) := by decide +kernel
theorem dX5_init_88 : decode cX5_init 88 = .ok (.putfield 34, 3) := by decide +kernel
theorem dX5_init_91 : decode cX5_init 91 = .ok (.aload_n 0, 1) := by decide +kernel
theorem dX5_init_92 : decode cX5_init 92 = .ok (.bipush 6, 2) := by decide +kernel
theorem dX5_init_94 : decode cX5_init 94 = .ok (.newarray .int, 2) := by decide +kernel
theorem dX5_init_96 : decode cX5_init 96 = .ok (.putfield 37, 3) := by decide +kernel
theorem dX5_init_99 : decode cX5_init 99 = .ok (.aload_n 0, 1) := by decide +kernel
theorem dX5_init_100 : decode cX5_init 100 = .ok (.bipush 40, 2) := by decide +kernel
theorem dX5_init_102 : decode cX5_init 102 = .ok (.newarray .int, 2) := by decide +kernel
theorem dX5_init_104 : decode cX5_init 104 = .ok (.putfield 40, 3) := by decide +kernel
theorem dX5_init_107 : decode cX5_init 107 = .ok (.aload_n 0, 1) := by decide +kernel
theorem dX5_init_108 : decode cX5_init 108 = .ok (.iconst 5, 1) := by decide +kernel
theorem dX5_init_109 : decode cX5_init 109 = .ok (.newarray .int, 2) := by decide +kernel
theorem dX5_init_111 : decode cX5_init 111 = .ok (.putfield 43, 3) := by decide +kernel
theorem dX5_init_114 : decode cX5_init 114 = .ok (.aload_n 0, 1) := by decide +kernel
theorem dX5_init_115 : decode cX5_init 115 = .ok (.bipush 20, 2) := by decide +kernel
theorem dX5_init_117 : decode cX5_init 117 = .ok (.newarray .int, 2) := by decide +kernel
theorem dX5_init_119 : decode cX5_init 119 = .ok (.putfield 46, 3) := by decide +kernel
theorem dX5_init_122 : decode cX5_init 122 = .ok (.aload_n 0, 1) := by decide +kernel
theorem dX5_init_123 : decode cX5_init 123 = .ok (.iconst 4, 1) := by decide +kernel
theorem dX5_init_124 : decode cX5_init 124 = .ok (.newarray .int, 2) := by decide +kernel
theorem dX5_init_126 : decode cX5_init 126 = .ok (.putfield 49, 3) := by decide +kernel
theorem dX5_init_129 : decode cX5_init 129 = .ok (.aload_n 0, 1) := by decide +kernel
theorem dX5_init_130 : decode cX5_init 130 = .ok (.bipush 8, 2) := by decide +kernel
theorem dX5_init_132 : decode cX5_init 132 = .ok (.newarray .int, 2) := by decide +kernel
theorem dX5_init_134 : decode cX5_init 134 = .ok (.putfield 52, 3) := by decide +kernel
theorem dX5_init_137 : decode cX5_init 137 = .ok (.aload_n 0, 1) := by decide +kernel
theorem dX5_init_138 : decode cX5_init 138 = .ok (.bipush 8, 2) := by decide +kernel
theorem dX5_init_140 : decode cX5_init 140 = .ok (.newarray .int, 2) := by decide +kernel
theorem dX5_init_142 : decode cX5_init 142 = .ok (.putfield 55, 3) := by decide +kernel
theorem dX5_init_145 : decode cX5_init 145 = .ok (.aload_n 0, 1) := by decide +kernel
theorem dX5_init_146 : decode cX5_init 146 = .ok (.bipush 8, 2) := by decide +kernel
theorem dX5_init_148 : decode cX5_init 148 = .ok (.newarray .int, 2) := by decide +kernel
theorem dX5_init_150 : decode cX5_init 150 = .ok (.putfield 58, 3) := by decide +kernel
theorem dX5_init_153 : decode cX5_init 153 = .ok (.return_, 1) := by decide +kernel
end
section
theorem dX5_fails_0 : decode cX5_fails 0 = .ok (.aload_n 0, 1) := by decide +kernel
theorem dX5_fails_1 : decode cX5_fails 1 = .ok (.iload_n 1, 1) := by decide +kernel
theorem dX5_fails_2 : decode cX5_fails 2 = .ok (.putfield 61, 3) := by decide +kernel
theorem dX5_fails_5 : decode cX5_fails 5 = .ok (.bipush (-10), 2) := by decide +kernel
theorem dX5_fails_7 : decode cX5_fails 7 = .ok (.iload_n 1, 1) := by decide +kernel
theorem dX5_fails_8 : decode cX5_fails 8 = .ok (.isub, 1) := by decide +kernel
theorem dX5_fails_9 : decode cX5_fails 9 = .ok (.ireturn, 1) := by decide +kernel
theorem dX5_lost_0 : decode cX5_lost 0 = .ok (.aload_n 0, 1) := by decide +kernel
theorem dX5_lost_1 : decode cX5_lost 1 = .ok (.iload_n 1, 1) := by decide +kernel
theorem dX5_lost_2 : decode cX5_lost 2 = .ok (.putfield 61, 3) := by decide +kernel
theorem dX5_lost_5 : decode cX5_lost 5 = .ok (.ldc2_w 65, 3) := by decide +kernel
theorem dX5_lost_8 : decode cX5_lost 8 = .ok (.lreturn, 1) := by decide +kernel
theorem dX5_within_0 : decode cX5_within 0 = .ok (.iload_n 0, 1) := by decide +kernel
theorem dX5_within_1 : decode cX5_within 1 = .ok (.iload_n 1, 1) := by decide +kernel
theorem dX5_within_2 : decode cX5_within 2 = .ok (.if_icmp .lt 12, 3) := by decide +kernel
theorem dX5_within_5 : decode cX5_within 5 = .ok (.iload_n 0, 1) := by decide +kernel
theorem dX5_within_6 : decode cX5_within 6 = .ok (.iload_n 2, 1) := by decide +kernel
theorem dX5_within_7 : decode cX5_within 7 = .ok (.if_icmp .gt 7, 3) := by decide +kernel
theorem dX5_within_10 : decode cX5_within 10 = .ok (.iconst 1, 1) := by decide +kernel
theorem dX5_within_11 : decode cX5_within 11 = .ok (.goto 4, 3) := by decide +kernel
theorem dX5_within_14 : decode cX5_within 14 = .ok (.iconst 0, 1) := by decide +kernel
theorem dX5_within_15 : decode cX5_within 15 = .ok (.ireturn, 1) := by decide +kernel
theorem dX5_isSheet_0 : decode cX5_isSheet 0 = .ok (.iload_n 0, 1) := by decide +kernel
theorem dX5_isSheet_1 : decode cX5_isSheet 1 = .ok (.iconst 0, 1) := by decide +kernel
theorem dX5_isSheet_2 : decode cX5_isSheet 2 = .ok (.iconst 3, 1) := by decide +kernel
theorem dX5_isSheet_3 : decode cX5_isSheet 3 = .ok (.invokestatic 67, 3) := by decide +kernel
theorem dX5_isSheet_6 : decode cX5_isSheet 6 = .ok (.ireturn, 1) := by decide +kernel
theorem dX5_isSort_0 : decode cX5_isSort 0 = .ok (.iload_n 0, 1) := by decide +kernel
theorem dX5_isSort_1 : decode cX5_isSort 1 = .ok (.iconst 0, 1) := by decide +kernel
theorem dX5_isSort_2 : decode cX5_isSort 2 = .ok (.iconst 2, 1) := by decide +kernel
theorem dX5_isSort_3 : decode cX5_isSort 3 = .ok (.invokestatic 67, 3) := by decide +kernel
theorem dX5_isSort_6 : decode cX5_isSort 6 = .ok (.ireturn, 1) := by decide +kernel
theorem dX5_against_0 : decode cX5_against 0 = .ok (.aload_n 0, 1) := by decide +kernel
theorem dX5_against_1 : decode cX5_against 1 = .ok (.getfield 9, 3) := by decide +kernel
theorem dX5_against_4 : decode cX5_against 4 = .ok (.iload_n 1, 1) := by decide +kernel
theorem dX5_against_5 : decode cX5_against 5 = .ok (.iaload, 1) := by decide +kernel
theorem dX5_against_6 : decode cX5_against 6 = .ok (.bipush (-9), 2) := by decide +kernel
theorem dX5_against_8 : decode cX5_against 8 = .ok (.if_icmp .eq 15, 3) := by decide +kernel
theorem dX5_against_11 : decode cX5_against 11 = .ok (.aload_n 0, 1) := by decide +kernel
theorem dX5_against_12 : decode cX5_against 12 = .ok (.getfield 9, 3) := by decide +kernel
theorem dX5_against_15 : decode cX5_against 15 = .ok (.iload_n 1, 1) := by decide +kernel
theorem dX5_against_16 : decode cX5_against 16 = .ok (.iaload, 1) := by decide +kernel
theorem dX5_against_17 : decode cX5_against 17 = .ok (.iload_n 2, 1) := by decide +kernel
theorem dX5_against_18 : decode cX5_against 18 = .ok (.if_icmp .eq 5, 3) := by decide +kernel
theorem dX5_against_21 : decode cX5_against 21 = .ok (.iconst 2, 1) := by decide +kernel
theorem dX5_against_22 : decode cX5_against 22 = .ok (.ireturn, 1) := by decide +kernel
theorem dX5_against_23 : decode cX5_against 23 = .ok (.aload_n 0, 1) := by decide +kernel
theorem dX5_against_24 : decode cX5_against 24 = .ok (.getfield 9, 3) := by decide +kernel
theorem dX5_against_27 : decode cX5_against 27 = .ok (.iload_n 1, 1) := by decide +kernel
theorem dX5_against_28 : decode cX5_against 28 = .ok (.iaload, 1) := by decide +kernel
theorem dX5_against_29 : decode cX5_against 29 = .ok (.bipush (-9), 2) := by decide +kernel
theorem dX5_against_31 : decode cX5_against 31 = .ok (.if_icmp .ne 5, 3) := by decide +kernel
theorem dX5_against_34 : decode cX5_against 34 = .ok (.iconst 1, 1) := by decide +kernel
theorem dX5_against_35 : decode cX5_against 35 = .ok (.ireturn, 1) := by decide +kernel
theorem dX5_against_36 : decode cX5_against 36 = .ok (.iload 4, 2) := by decide +kernel
theorem dX5_against_38 : decode cX5_against 38 = .ok (.ifCond .ge 5, 3) := by decide +kernel
theorem dX5_against_41 : decode cX5_against 41 = .ok (.iconst 4, 1) := by decide +kernel
theorem dX5_against_42 : decode cX5_against 42 = .ok (.ireturn, 1) := by decide +kernel
theorem dX5_against_43 : decode cX5_against 43 = .ok (.iload_n 3, 1) := by decide +kernel
theorem dX5_against_44 : decode cX5_against 44 = .ok (.ifCond .lt 26, 3) := by decide +kernel
theorem dX5_against_47 : decode cX5_against 47 = .ok (.iload_n 3, 1) := by decide +kernel
theorem dX5_against_48 : decode cX5_against 48 = .ok (.aload_n 0, 1) := by decide +kernel
theorem dX5_against_49 : decode cX5_against 49 = .ok (.getfield 13, 3) := by decide +kernel
theorem dX5_against_52 : decode cX5_against 52 = .ok (.iload_n 1, 1) := by decide +kernel
theorem dX5_against_53 : decode cX5_against 53 = .ok (.iaload, 1) := by decide +kernel
theorem dX5_against_54 : decode cX5_against 54 = .ok (.if_icmp .gt 16, 3) := by decide +kernel
theorem dX5_against_57 : decode cX5_against 57 = .ok (.iload 4, 2) := by decide +kernel
theorem dX5_against_59 : decode cX5_against 59 = .ok (.aload_n 0, 1) := by decide +kernel
theorem dX5_against_60 : decode cX5_against 60 = .ok (.getfield 13, 3) := by decide +kernel
theorem dX5_against_63 : decode cX5_against 63 = .ok (.iload_n 1, 1) := by decide +kernel
theorem dX5_against_64 : decode cX5_against 64 = .ok (.iaload, 1) := by decide +kernel
theorem dX5_against_65 : decode cX5_against 65 = .ok (.iload_n 3, 1) := by decide +kernel
theorem dX5_against_66 : decode cX5_against 66 = .ok (.isub, 1) := by decide +kernel
theorem dX5_against_67 : decode cX5_against 67 = .ok (.if_icmp .le 7, 3) := by decide +kernel
theorem dX5_against_70 : decode cX5_against 70 = .ok (.iconst 3, 1) := by decide +kernel
theorem dX5_against_71 : decode cX5_against 71 = .ok (.goto 4, 3) := by decide +kernel
theorem dX5_against_74 : decode cX5_against 74 = .ok (.iconst 0, 1) := by decide +kernel
theorem dX5_against_75 : decode cX5_against 75 = .ok (.ireturn, 1) := by decide +kernel
theorem dX5_isShip_0 : decode cX5_isShip 0 = .ok (.iload_n 1, 1) := by decide +kernel
theorem dX5_isShip_1 : decode cX5_isShip 1 = .ok (.ifCond .lt 15, 3) := by decide +kernel
theorem dX5_isShip_4 : decode cX5_isShip 4 = .ok (.iload_n 1, 1) := by decide +kernel
theorem dX5_isShip_5 : decode cX5_isShip 5 = .ok (.aload_n 0, 1) := by decide +kernel
theorem dX5_isShip_6 : decode cX5_isShip 6 = .ok (.getfield 71, 3) := by decide +kernel
theorem dX5_isShip_9 : decode cX5_isShip 9 = .ok (.if_icmp .ge 7, 3) := by decide +kernel
theorem dX5_isShip_12 : decode cX5_isShip 12 = .ok (.iconst 1, 1) := by decide +kernel
theorem dX5_isShip_13 : decode cX5_isShip 13 = .ok (.goto 4, 3) := by decide +kernel
theorem dX5_isShip_16 : decode cX5_isShip 16 = .ok (.iconst 0, 1) := by decide +kernel
theorem dX5_isShip_17 : decode cX5_isShip 17 = .ok (.ireturn, 1) := by decide +kernel
theorem dX5_isPort_0 : decode cX5_isPort 0 = .ok (.iload_n 1, 1) := by decide +kernel
theorem dX5_isPort_1 : decode cX5_isPort 1 = .ok (.ifCond .lt 15, 3) := by decide +kernel
theorem dX5_isPort_4 : decode cX5_isPort 4 = .ok (.iload_n 1, 1) := by decide +kernel
theorem dX5_isPort_5 : decode cX5_isPort 5 = .ok (.aload_n 0, 1) := by decide +kernel
theorem dX5_isPort_6 : decode cX5_isPort 6 = .ok (.getfield 74, 3) := by decide +kernel
theorem dX5_isPort_9 : decode cX5_isPort 9 = .ok (.if_icmp .ge 7, 3) := by decide +kernel
theorem dX5_isPort_12 : decode cX5_isPort 12 = .ok (.iconst 1, 1) := by decide +kernel
theorem dX5_isPort_13 : decode cX5_isPort 13 = .ok (.goto 4, 3) := by decide +kernel
theorem dX5_isPort_16 : decode cX5_isPort 16 = .ok (.iconst 0, 1) := by decide +kernel
theorem dX5_isPort_17 : decode cX5_isPort 17 = .ok (.ireturn, 1) := by decide +kernel
theorem dX5_isGood_0 : decode cX5_isGood 0 = .ok (.iload_n 0, 1) := by decide +kernel
theorem dX5_isGood_1 : decode cX5_isGood 1 = .ok (.iconst 0, 1) := by decide +kernel
theorem dX5_isGood_2 : decode cX5_isGood 2 = .ok (.iconst 3, 1) := by decide +kernel
theorem dX5_isGood_3 : decode cX5_isGood 3 = .ok (.invokestatic 67, 3) := by decide +kernel
theorem dX5_isGood_6 : decode cX5_isGood 6 = .ok (.ireturn, 1) := by decide +kernel
theorem dX5_isDigit_0 : decode cX5_isDigit 0 = .ok (.iload_n 0, 1) := by decide +kernel
theorem dX5_isDigit_1 : decode cX5_isDigit 1 = .ok (.iconst 0, 1) := by decide +kernel
theorem dX5_isDigit_2 : decode cX5_isDigit 2 = .ok (.bipush 9, 2) := by decide +kernel
theorem dX5_isDigit_4 : decode cX5_isDigit 4 = .ok (.invokestatic 67, 3) := by decide +kernel
theorem dX5_isDigit_7 : decode cX5_isDigit 7 = .ok (.ireturn, 1) := by decide +kernel
theorem dX5_digit_0 : decode cX5_digit 0 = .ok (.aload_n 0, 1) := by decide +kernel
theorem dX5_digit_1 : decode cX5_digit 1 = .ok (.getfield 77, 3) := by decide +kernel
theorem dX5_digit_4 : decode cX5_digit 4 = .ok (.iload_n 1, 1) := by decide +kernel
theorem dX5_digit_5 : decode cX5_digit 5 = .ok (.if_icmp .ge 26, 3) := by decide +kernel
theorem dX5_digit_8 : decode cX5_digit 8 = .ok (.aload_n 0, 1) := by decide +kernel
theorem dX5_digit_9 : decode cX5_digit 9 = .ok (.getfield 16, 3) := by decide +kernel
theorem dX5_digit_12 : decode cX5_digit 12 = .ok (.aload_n 0, 1) := by decide +kernel
theorem dX5_digit_13 : decode cX5_digit 13 = .ok (.getfield 77, 3) := by decide +kernel
theorem dX5_digit_16 : decode cX5_digit 16 = .ok (.iaload, 1) := by decide +kernel
theorem dX5_digit_17 : decode cX5_digit 17 = .ok (.bipush 48, 2) := by decide +kernel
theorem dX5_digit_19 : decode cX5_digit 19 = .ok (.iload_n 2, 1) := by decide +kernel
theorem dX5_digit_20 : decode cX5_digit 20 = .ok (.iadd, 1) := by decide +kernel
theorem dX5_digit_21 : decode cX5_digit 21 = .ok (.bipush 48, 2) := by decide +kernel
theorem dX5_digit_23 : decode cX5_digit 23 = .ok (.iload_n 3, 1) := by decide +kernel
theorem dX5_digit_24 : decode cX5_digit 24 = .ok (.iadd, 1) := by decide +kernel
theorem dX5_digit_25 : decode cX5_digit 25 = .ok (.invokestatic 67, 3) := by decide +kernel
theorem dX5_digit_28 : decode cX5_digit 28 = .ok (.ifCond .ne 6, 3) := by decide +kernel
theorem dX5_digit_31 : decode cX5_digit 31 = .ok (.bipush (-9), 2) := by decide +kernel
theorem dX5_digit_33 : decode cX5_digit 33 = .ok (.ireturn, 1) := by decide +kernel
theorem dX5_digit_34 : decode cX5_digit 34 = .ok (.aload_n 0, 1) := by decide +kernel
theorem dX5_digit_35 : decode cX5_digit 35 = .ok (.dup, 1) := by decide +kernel
theorem dX5_digit_36 : decode cX5_digit 36 = .ok (.getfield 77, 3) := by decide +kernel
theorem dX5_digit_39 : decode cX5_digit 39 = .ok (.iconst 1, 1) := by decide +kernel
theorem dX5_digit_40 : decode cX5_digit 40 = .ok (.iadd, 1) := by decide +kernel
theorem dX5_digit_41 : decode cX5_digit 41 = .ok (.putfield 77, 3) := by decide +kernel
theorem dX5_digit_44 : decode cX5_digit 44 = .ok (.aload_n 0, 1) := by decide +kernel
theorem dX5_digit_45 : decode cX5_digit 45 = .ok (.getfield 16, 3) := by decide +kernel
theorem dX5_digit_48 : decode cX5_digit 48 = .ok (.aload_n 0, 1) := by decide +kernel
theorem dX5_digit_49 : decode cX5_digit 49 = .ok (.getfield 77, 3) := by decide +kernel
theorem dX5_digit_52 : decode cX5_digit 52 = .ok (.iconst 1, 1) := by decide +kernel
theorem dX5_digit_53 : decode cX5_digit 53 = .ok (.isub, 1) := by decide +kernel
theorem dX5_digit_54 : decode cX5_digit 54 = .ok (.iaload, 1) := by decide +kernel
theorem dX5_digit_55 : decode cX5_digit 55 = .ok (.bipush 48, 2) := by decide +kernel
theorem dX5_digit_57 : decode cX5_digit 57 = .ok (.isub, 1) := by decide +kernel
theorem dX5_digit_58 : decode cX5_digit 58 = .ok (.ireturn, 1) := by decide +kernel
theorem dX5_isSign_0 : decode cX5_isSign 0 = .ok (.aload_n 0, 1) := by decide +kernel
theorem dX5_isSign_1 : decode cX5_isSign 1 = .ok (.getfield 77, 3) := by decide +kernel
theorem dX5_isSign_4 : decode cX5_isSign 4 = .ok (.iload_n 1, 1) := by decide +kernel
theorem dX5_isSign_5 : decode cX5_isSign 5 = .ok (.if_icmp .ge 16, 3) := by decide +kernel
theorem dX5_isSign_8 : decode cX5_isSign 8 = .ok (.aload_n 0, 1) := by decide +kernel
theorem dX5_isSign_9 : decode cX5_isSign 9 = .ok (.getfield 16, 3) := by decide +kernel
theorem dX5_isSign_12 : decode cX5_isSign 12 = .ok (.aload_n 0, 1) := by decide +kernel
theorem dX5_isSign_13 : decode cX5_isSign 13 = .ok (.getfield 77, 3) := by decide +kernel
theorem dX5_isSign_16 : decode cX5_isSign 16 = .ok (.iaload, 1) := by decide +kernel
theorem dX5_isSign_17 : decode cX5_isSign 17 = .ok (.iload_n 2, 1) := by decide +kernel
theorem dX5_isSign_18 : decode cX5_isSign 18 = .ok (.if_icmp .eq 5, 3) := by decide +kernel
theorem dX5_isSign_21 : decode cX5_isSign 21 = .ok (.iconst 0, 1) := by decide +kernel
theorem dX5_isSign_22 : decode cX5_isSign 22 = .ok (.ireturn, 1) := by decide +kernel
theorem dX5_isSign_23 : decode cX5_isSign 23 = .ok (.aload_n 0, 1) := by decide +kernel
theorem dX5_isSign_24 : decode cX5_isSign 24 = .ok (.dup, 1) := by decide +kernel
theorem dX5_isSign_25 : decode cX5_isSign 25 = .ok (.getfield 77, 3) := by decide +kernel
theorem dX5_isSign_28 : decode cX5_isSign 28 = .ok (.iconst 1, 1) := by decide +kernel
theorem dX5_isSign_29 : decode cX5_isSign 29 = .ok (.iadd, 1) := by decide +kernel
theorem dX5_isSign_30 : decode cX5_isSign 30 = .ok (.putfield 77, 3) := by decide +kernel
theorem dX5_isSign_33 : decode cX5_isSign 33 = .ok (.iconst 1, 1) := by decide +kernel
theorem dX5_isSign_34 : decode cX5_isSign 34 = .ok (.ireturn, 1) := by decide +kernel
theorem dX5_sea_0 : decode cX5_sea 0 = .ok (.aload_n 0, 1) := by decide +kernel
theorem dX5_sea_1 : decode cX5_sea 1 = .ok (.iconst 0, 1) := by decide +kernel
theorem dX5_sea_2 : decode cX5_sea 2 = .ok (.putfield 61, 3) := by decide +kernel
theorem dX5_sea_5 : decode cX5_sea 5 = .ok (.iload_n 1, 1) := by decide +kernel
theorem dX5_sea_6 : decode cX5_sea 6 = .ok (.invokestatic 80, 3) := by decide +kernel
theorem dX5_sea_9 : decode cX5_sea 9 = .ok (.ifCond .ne 5, 3) := by decide +kernel
theorem dX5_sea_12 : decode cX5_sea 12 = .ok (.iconst (-1), 1) := by decide +kernel
theorem dX5_sea_13 : decode cX5_sea 13 = .ok (.ireturn, 1) := by decide +kernel
theorem dX5_sea_14 : decode cX5_sea 14 = .ok (.iload_n 2, 1) := by decide +kernel
theorem dX5_sea_15 : decode cX5_sea 15 = .ok (.invokestatic 84, 3) := by decide +kernel
theorem dX5_sea_18 : decode cX5_sea 18 = .ok (.ifCond .ne 6, 3) := by decide +kernel
theorem dX5_sea_21 : decode cX5_sea 21 = .ok (.bipush (-2), 2) := by decide +kernel
theorem dX5_sea_23 : decode cX5_sea 23 = .ok (.ireturn, 1) := by decide +kernel
theorem dX5_sea_24 : decode cX5_sea 24 = .ok (.aload_n 0, 1) := by decide +kernel
theorem dX5_sea_25 : decode cX5_sea 25 = .ok (.iload_n 1, 1) := by decide +kernel
theorem dX5_sea_26 : decode cX5_sea 26 = .ok (.iload_n 2, 1) := by decide +kernel
theorem dX5_sea_27 : decode cX5_sea 27 = .ok (.iload_n 3, 1) := by decide +kernel
theorem dX5_sea_28 : decode cX5_sea 28 = .ok (.iload 4, 2) := by decide +kernel
theorem dX5_sea_30 : decode cX5_sea 30 = .ok (.invokevirtual 87, 3) := by decide +kernel
theorem dX5_sea_33 : decode cX5_sea 33 = .ok (.istore 5, 2) := by decide +kernel
theorem dX5_sea_35 : decode cX5_sea 35 = .ok (.iload 5, 2) := by decide +kernel
theorem dX5_sea_37 : decode cX5_sea 37 = .ok (.ifCond .eq 10, 3) := by decide +kernel
theorem dX5_sea_40 : decode cX5_sea 40 = .ok (.aload_n 0, 1) := by decide +kernel
theorem dX5_sea_41 : decode cX5_sea 41 = .ok (.iload 5, 2) := by decide +kernel
theorem dX5_sea_43 : decode cX5_sea 43 = .ok (.invokevirtual 91, 3) := by decide +kernel
theorem dX5_sea_46 : decode cX5_sea 46 = .ok (.ireturn, 1) := by decide +kernel
theorem dX5_sea_47 : decode cX5_sea 47 = .ok (.bipush 60, 2) := by decide +kernel
theorem dX5_sea_49 : decode cX5_sea 49 = .ok (.iload_n 1, 1) := by decide +kernel
theorem dX5_sea_50 : decode cX5_sea 50 = .ok (.imul, 1) := by decide +kernel
theorem dX5_sea_51 : decode cX5_sea 51 = .ok (.iload_n 3, 1) := by decide +kernel
theorem dX5_sea_52 : decode cX5_sea 52 = .ok (.iadd, 1) := by decide +kernel
theorem dX5_sea_53 : decode cX5_sea 53 = .ok (.istore 6, 2) := by decide +kernel
theorem dX5_sea_55 : decode cX5_sea 55 = .ok (.aload_n 0, 1) := by decide +kernel
theorem dX5_sea_56 : decode cX5_sea 56 = .ok (.iload 6, 2) := by decide +kernel
theorem dX5_sea_58 : decode cX5_sea 58 = .ok (.putfield 77, 3) := by decide +kernel
theorem dX5_sea_61 : decode cX5_sea 61 = .ok (.aload_n 0, 1) := by decide +kernel
theorem dX5_sea_62 : decode cX5_sea 62 = .ok (.iload 6, 2) := by decide +kernel
theorem dX5_sea_64 : decode cX5_sea 64 = .ok (.iload 4, 2) := by decide +kernel
theorem dX5_sea_66 : decode cX5_sea 66 = .ok (.iadd, 1) := by decide +kernel
theorem dX5_sea_67 : decode cX5_sea 67 = .ok (.invokevirtual 95, 3) := by decide +kernel
theorem dX5_sea_70 : decode cX5_sea 70 = .ok (.ifCond .ne 14, 3) := by decide +kernel
theorem dX5_sea_73 : decode cX5_sea 73 = .ok (.bipush (-100), 2) := by decide +kernel
theorem dX5_sea_75 : decode cX5_sea 75 = .ok (.aload_n 0, 1) := by decide +kernel
theorem dX5_sea_76 : decode cX5_sea 76 = .ok (.getfield 77, 3) := by decide +kernel
theorem dX5_sea_79 : decode cX5_sea 79 = .ok (.iload 6, 2) := by decide +kernel
theorem dX5_sea_81 : decode cX5_sea 81 = .ok (.isub, 1) := by decide +kernel
theorem dX5_sea_82 : decode cX5_sea 82 = .ok (.isub, 1) := by decide +kernel
theorem dX5_sea_83 : decode cX5_sea 83 = .ok (.ireturn, 1) := by decide +kernel
theorem dX5_sea_84 : decode cX5_sea 84 = .ok (.aload_n 0, 1) := by decide +kernel
theorem dX5_sea_85 : decode cX5_sea 85 = .ok (.invokevirtual 98, 3) := by decide +kernel
theorem dX5_sea_88 : decode cX5_sea 88 = .ok (.aload_n 0, 1) := by decide +kernel
theorem dX5_sea_89 : decode cX5_sea 89 = .ok (.getfield 71, 3) := by decide +kernel
theorem dX5_sea_92 : decode cX5_sea 92 = .ok (.ireturn, 1) := by decide +kernel
theorem dX5_takeSea_0 : decode cX5_takeSea 0 = .ok (.aload_n 0, 1) := by decide +kernel
theorem dX5_takeSea_1 : decode cX5_takeSea 1 = .ok (.aload_n 0, 1) := by decide +kernel
theorem dX5_takeSea_2 : decode cX5_takeSea 2 = .ok (.getfield 101, 3) := by decide +kernel
theorem dX5_takeSea_5 : decode cX5_takeSea 5 = .ok (.putfield 74, 3) := by decide +kernel
theorem dX5_takeSea_8 : decode cX5_takeSea 8 = .ok (.iconst 0, 1) := by decide +kernel
theorem dX5_takeSea_9 : decode cX5_takeSea 9 = .ok (.istore_n 1, 1) := by decide +kernel
theorem dX5_takeSea_10 : decode cX5_takeSea 10 = .ok (.iload_n 1, 1) := by decide +kernel
theorem dX5_takeSea_11 : decode cX5_takeSea 11 = .ok (.aload_n 0, 1) := by decide +kernel
theorem dX5_takeSea_12 : decode cX5_takeSea 12 = .ok (.getfield 74, 3) := by decide +kernel
theorem dX5_takeSea_15 : decode cX5_takeSea 15 = .ok (.if_icmp .ge 21, 3) := by decide +kernel
theorem dX5_takeSea_18 : decode cX5_takeSea 18 = .ok (.aload_n 0, 1) := by decide +kernel
theorem dX5_takeSea_19 : decode cX5_takeSea 19 = .ok (.getfield 19, 3) := by decide +kernel
theorem dX5_takeSea_22 : decode cX5_takeSea 22 = .ok (.iload_n 1, 1) := by decide +kernel
theorem dX5_takeSea_23 : decode cX5_takeSea 23 = .ok (.aload_n 0, 1) := by decide +kernel
theorem dX5_takeSea_24 : decode cX5_takeSea 24 = .ok (.getfield 37, 3) := by decide +kernel
theorem dX5_takeSea_27 : decode cX5_takeSea 27 = .ok (.iload_n 1, 1) := by decide +kernel
theorem dX5_takeSea_28 : decode cX5_takeSea 28 = .ok (.iaload, 1) := by decide +kernel
theorem dX5_takeSea_29 : decode cX5_takeSea 29 = .ok (.iastore, 1) := by decide +kernel
theorem dX5_takeSea_30 : decode cX5_takeSea 30 = .ok (.iinc 1 1, 3) := by decide +kernel
theorem dX5_takeSea_33 : decode cX5_takeSea 33 = .ok (.goto (-23), 3) := by decide +kernel
theorem dX5_takeSea_36 : decode cX5_takeSea 36 = .ok (.aload_n 0, 1) := by decide +kernel
theorem dX5_takeSea_37 : decode cX5_takeSea 37 = .ok (.aload_n 0, 1) := by decide +kernel
theorem dX5_takeSea_38 : decode cX5_takeSea 38 = .ok (.getfield 104, 3) := by decide +kernel
theorem dX5_takeSea_41 : decode cX5_takeSea 41 = .ok (.putfield 71, 3) := by decide +kernel
theorem dX5_takeSea_44 : decode cX5_takeSea 44 = .ok (.iconst 0, 1) := by decide +kernel
theorem dX5_takeSea_45 : decode cX5_takeSea 45 = .ok (.istore_n 1, 1) := by decide +kernel
theorem dX5_takeSea_46 : decode cX5_takeSea 46 = .ok (.iload_n 1, 1) := by decide +kernel
theorem dX5_takeSea_47 : decode cX5_takeSea 47 = .ok (.aload_n 0, 1) := by decide +kernel
theorem dX5_takeSea_48 : decode cX5_takeSea 48 = .ok (.getfield 71, 3) := by decide +kernel
theorem dX5_takeSea_51 : decode cX5_takeSea 51 = .ok (.if_icmp .ge 111, 3) := by decide +kernel
theorem dX5_takeSea_54 : decode cX5_takeSea 54 = .ok (.aload_n 0, 1) := by decide +kernel
theorem dX5_takeSea_55 : decode cX5_takeSea 55 = .ok (.getfield 22, 3) := by decide +kernel
theorem dX5_takeSea_58 : decode cX5_takeSea 58 = .ok (.iload_n 1, 1) := by decide +kernel
theorem dX5_takeSea_59 : decode cX5_takeSea 59 = .ok (.aload_n 0, 1) := by decide +kernel
theorem dX5_takeSea_60 : decode cX5_takeSea 60 = .ok (.getfield 40, 3) := by decide +kernel
theorem dX5_takeSea_63 : decode cX5_takeSea 63 = .ok (.bipush 8, 2) := by decide +kernel
theorem dX5_takeSea_65 : decode cX5_takeSea 65 = .ok (.iload_n 1, 1) := by decide +kernel
theorem dX5_takeSea_66 : decode cX5_takeSea 66 = .ok (.imul, 1) := by decide +kernel
theorem dX5_takeSea_67 : decode cX5_takeSea 67 = .ok (.iaload, 1) := by decide +kernel
theorem dX5_takeSea_68 : decode cX5_takeSea 68 = .ok (.iastore, 1) := by decide +kernel
theorem dX5_takeSea_69 : decode cX5_takeSea 69 = .ok (.aload_n 0, 1) := by decide +kernel
theorem dX5_takeSea_70 : decode cX5_takeSea 70 = .ok (.getfield 25, 3) := by decide +kernel
theorem dX5_takeSea_73 : decode cX5_takeSea 73 = .ok (.iload_n 1, 1) := by decide +kernel
theorem dX5_takeSea_74 : decode cX5_takeSea 74 = .ok (.aload_n 0, 1) := by decide +kernel
theorem dX5_takeSea_75 : decode cX5_takeSea 75 = .ok (.getfield 40, 3) := by decide +kernel
theorem dX5_takeSea_78 : decode cX5_takeSea 78 = .ok (.bipush 8, 2) := by decide +kernel
theorem dX5_takeSea_80 : decode cX5_takeSea 80 = .ok (.iload_n 1, 1) := by decide +kernel
theorem dX5_takeSea_81 : decode cX5_takeSea 81 = .ok (.imul, 1) := by decide +kernel
theorem dX5_takeSea_82 : decode cX5_takeSea 82 = .ok (.iconst 1, 1) := by decide +kernel
theorem dX5_takeSea_83 : decode cX5_takeSea 83 = .ok (.iadd, 1) := by decide +kernel
theorem dX5_takeSea_84 : decode cX5_takeSea 84 = .ok (.iaload, 1) := by decide +kernel
theorem dX5_takeSea_85 : decode cX5_takeSea 85 = .ok (.iastore, 1) := by decide +kernel
theorem dX5_takeSea_86 : decode cX5_takeSea 86 = .ok (.aload_n 0, 1) := by decide +kernel
theorem dX5_takeSea_87 : decode cX5_takeSea 87 = .ok (.getfield 28, 3) := by decide +kernel
theorem dX5_takeSea_90 : decode cX5_takeSea 90 = .ok (.iload_n 1, 1) := by decide +kernel
theorem dX5_takeSea_91 : decode cX5_takeSea 91 = .ok (.aload_n 0, 1) := by decide +kernel
theorem dX5_takeSea_92 : decode cX5_takeSea 92 = .ok (.getfield 40, 3) := by decide +kernel
theorem dX5_takeSea_95 : decode cX5_takeSea 95 = .ok (.bipush 8, 2) := by decide +kernel
theorem dX5_takeSea_97 : decode cX5_takeSea 97 = .ok (.iload_n 1, 1) := by decide +kernel
theorem dX5_takeSea_98 : decode cX5_takeSea 98 = .ok (.imul, 1) := by decide +kernel
theorem dX5_takeSea_99 : decode cX5_takeSea 99 = .ok (.iconst 2, 1) := by decide +kernel
theorem dX5_takeSea_100 : decode cX5_takeSea 100 = .ok (.iadd, 1) := by decide +kernel
theorem dX5_takeSea_101 : decode cX5_takeSea 101 = .ok (.iaload, 1) := by decide +kernel
theorem dX5_takeSea_102 : decode cX5_takeSea 102 = .ok (.iastore, 1) := by decide +kernel
theorem dX5_takeSea_103 : decode cX5_takeSea 103 = .ok (.aload_n 0, 1) := by decide +kernel
theorem dX5_takeSea_104 : decode cX5_takeSea 104 = .ok (.getfield 31, 3) := by decide +kernel
theorem dX5_takeSea_107 : decode cX5_takeSea 107 = .ok (.iload_n 1, 1) := by decide +kernel
theorem dX5_takeSea_108 : decode cX5_takeSea 108 = .ok (.aload_n 0, 1) := by decide +kernel
theorem dX5_takeSea_109 : decode cX5_takeSea 109 = .ok (.getfield 40, 3) := by decide +kernel
theorem dX5_takeSea_112 : decode cX5_takeSea 112 = .ok (.bipush 8, 2) := by decide +kernel
theorem dX5_takeSea_114 : decode cX5_takeSea 114 = .ok (.iload_n 1, 1) := by decide +kernel
theorem dX5_takeSea_115 : decode cX5_takeSea 115 = .ok (.imul, 1) := by decide +kernel
theorem dX5_takeSea_116 : decode cX5_takeSea 116 = .ok (.iconst 3, 1) := by decide +kernel
theorem dX5_takeSea_117 : decode cX5_takeSea 117 = .ok (.iadd, 1) := by decide +kernel
theorem dX5_takeSea_118 : decode cX5_takeSea 118 = .ok (.iaload, 1) := by decide +kernel
theorem dX5_takeSea_119 : decode cX5_takeSea 119 = .ok (.iastore, 1) := by decide +kernel
theorem dX5_takeSea_120 : decode cX5_takeSea 120 = .ok (.iconst 0, 1) := by decide +kernel
theorem dX5_takeSea_121 : decode cX5_takeSea 121 = .ok (.istore_n 2, 1) := by decide +kernel
theorem dX5_takeSea_122 : decode cX5_takeSea 122 = .ok (.iload_n 2, 1) := by decide +kernel
theorem dX5_takeSea_123 : decode cX5_takeSea 123 = .ok (.iconst 4, 1) := by decide +kernel
theorem dX5_takeSea_124 : decode cX5_takeSea 124 = .ok (.if_icmp .ge 32, 3) := by decide +kernel
theorem dX5_takeSea_127 : decode cX5_takeSea 127 = .ok (.aload_n 0, 1) := by decide +kernel
theorem dX5_takeSea_128 : decode cX5_takeSea 128 = .ok (.getfield 34, 3) := by decide +kernel
theorem dX5_takeSea_131 : decode cX5_takeSea 131 = .ok (.iconst 4, 1) := by decide +kernel
theorem dX5_takeSea_132 : decode cX5_takeSea 132 = .ok (.iload_n 1, 1) := by decide +kernel
theorem dX5_takeSea_133 : decode cX5_takeSea 133 = .ok (.imul, 1) := by decide +kernel
theorem dX5_takeSea_134 : decode cX5_takeSea 134 = .ok (.iload_n 2, 1) := by decide +kernel
theorem dX5_takeSea_135 : decode cX5_takeSea 135 = .ok (.iadd, 1) := by decide +kernel
theorem dX5_takeSea_136 : decode cX5_takeSea 136 = .ok (.aload_n 0, 1) := by decide +kernel
theorem dX5_takeSea_137 : decode cX5_takeSea 137 = .ok (.getfield 40, 3) := by decide +kernel
theorem dX5_takeSea_140 : decode cX5_takeSea 140 = .ok (.bipush 8, 2) := by decide +kernel
theorem dX5_takeSea_142 : decode cX5_takeSea 142 = .ok (.iload_n 1, 1) := by decide +kernel
theorem dX5_takeSea_143 : decode cX5_takeSea 143 = .ok (.imul, 1) := by decide +kernel
theorem dX5_takeSea_144 : decode cX5_takeSea 144 = .ok (.iconst 4, 1) := by decide +kernel
theorem dX5_takeSea_145 : decode cX5_takeSea 145 = .ok (.iadd, 1) := by decide +kernel
theorem dX5_takeSea_146 : decode cX5_takeSea 146 = .ok (.iload_n 2, 1) := by decide +kernel
theorem dX5_takeSea_147 : decode cX5_takeSea 147 = .ok (.iadd, 1) := by decide +kernel
theorem dX5_takeSea_148 : decode cX5_takeSea 148 = .ok (.iaload, 1) := by decide +kernel
theorem dX5_takeSea_149 : decode cX5_takeSea 149 = .ok (.iastore, 1) := by decide +kernel
theorem dX5_takeSea_150 : decode cX5_takeSea 150 = .ok (.iinc 2 1, 3) := by decide +kernel
theorem dX5_takeSea_153 : decode cX5_takeSea 153 = .ok (.goto (-31), 3) := by decide +kernel
theorem dX5_takeSea_156 : decode cX5_takeSea 156 = .ok (.iinc 1 1, 3) := by decide +kernel
theorem dX5_takeSea_159 : decode cX5_takeSea 159 = .ok (.goto (-113), 3) := by decide +kernel
theorem dX5_takeSea_162 : decode cX5_takeSea 162 = .ok (.aload_n 0, 1) := by decide +kernel
theorem dX5_takeSea_163 : decode cX5_takeSea 163 = .ok (.iconst 0, 1) := by decide +kernel
theorem dX5_takeSea_164 : decode cX5_takeSea 164 = .ok (.putfield 107, 3) := by decide +kernel
theorem dX5_takeSea_167 : decode cX5_takeSea 167 = .ok (.aload_n 0, 1) := by decide +kernel
theorem dX5_takeSea_168 : decode cX5_takeSea 168 = .ok (.iconst 0, 1) := by decide +kernel
theorem dX5_takeSea_169 : decode cX5_takeSea 169 = .ok (.putfield 110, 3) := by decide +kernel
theorem dX5_takeSea_172 : decode cX5_takeSea 172 = .ok (.return_, 1) := by decide +kernel
theorem dX5_readSea_0 : decode cX5_readSea 0 = .ok (.aload_n 0, 1) := by decide +kernel
theorem dX5_readSea_1 : decode cX5_readSea 1 = .ok (.iconst 0, 1) := by decide +kernel
theorem dX5_readSea_2 : decode cX5_readSea 2 = .ok (.putfield 104, 3) := by decide +kernel
theorem dX5_readSea_5 : decode cX5_readSea 5 = .ok (.aload_n 0, 1) := by decide +kernel
theorem dX5_readSea_6 : decode cX5_readSea 6 = .ok (.iload_n 1, 1) := by decide +kernel
theorem dX5_readSea_7 : decode cX5_readSea 7 = .ok (.bipush 121, 2) := by decide +kernel
theorem dX5_readSea_9 : decode cX5_readSea 9 = .ok (.invokevirtual 113, 3) := by decide +kernel
theorem dX5_readSea_12 : decode cX5_readSea 12 = .ok (.ifCond .eq 11, 3) := by decide +kernel
theorem dX5_readSea_15 : decode cX5_readSea 15 = .ok (.aload_n 0, 1) := by decide +kernel
theorem dX5_readSea_16 : decode cX5_readSea 16 = .ok (.iload_n 1, 1) := by decide +kernel
theorem dX5_readSea_17 : decode cX5_readSea 17 = .ok (.invokevirtual 117, 3) := by decide +kernel
theorem dX5_readSea_20 : decode cX5_readSea 20 = .ok (.ifCond .ne 5, 3) := by decide +kernel
theorem dX5_readSea_23 : decode cX5_readSea 23 = .ok (.iconst 0, 1) := by decide +kernel
theorem dX5_readSea_24 : decode cX5_readSea 24 = .ok (.ireturn, 1) := by decide +kernel
theorem dX5_readSea_25 : decode cX5_readSea 25 = .ok (.aload_n 0, 1) := by decide +kernel
theorem dX5_readSea_26 : decode cX5_readSea 26 = .ok (.getfield 104, 3) := by decide +kernel
theorem dX5_readSea_29 : decode cX5_readSea 29 = .ok (.ifCond .eq 19, 3) := by decide +kernel
theorem dX5_readSea_32 : decode cX5_readSea 32 = .ok (.aload_n 0, 1) := by decide +kernel
theorem dX5_readSea_33 : decode cX5_readSea 33 = .ok (.getfield 104, 3) := by decide +kernel
theorem dX5_readSea_36 : decode cX5_readSea 36 = .ok (.iconst 5, 1) := by decide +kernel
theorem dX5_readSea_37 : decode cX5_readSea 37 = .ok (.if_icmp .ge 31, 3) := by decide +kernel
theorem dX5_readSea_40 : decode cX5_readSea 40 = .ok (.aload_n 0, 1) := by decide +kernel
theorem dX5_readSea_41 : decode cX5_readSea 41 = .ok (.getfield 77, 3) := by decide +kernel
theorem dX5_readSea_44 : decode cX5_readSea 44 = .ok (.iload_n 1, 1) := by decide +kernel
theorem dX5_readSea_45 : decode cX5_readSea 45 = .ok (.if_icmp .ge 23, 3) := by decide +kernel
theorem dX5_readSea_48 : decode cX5_readSea 48 = .ok (.aload_n 0, 1) := by decide +kernel
theorem dX5_readSea_49 : decode cX5_readSea 49 = .ok (.iload_n 1, 1) := by decide +kernel
theorem dX5_readSea_50 : decode cX5_readSea 50 = .ok (.bipush 59, 2) := by decide +kernel
theorem dX5_readSea_52 : decode cX5_readSea 52 = .ok (.invokevirtual 113, 3) := by decide +kernel
theorem dX5_readSea_55 : decode cX5_readSea 55 = .ok (.ifCond .eq 11, 3) := by decide +kernel
theorem dX5_readSea_58 : decode cX5_readSea 58 = .ok (.aload_n 0, 1) := by decide +kernel
theorem dX5_readSea_59 : decode cX5_readSea 59 = .ok (.iload_n 1, 1) := by decide +kernel
theorem dX5_readSea_60 : decode cX5_readSea 60 = .ok (.invokevirtual 120, 3) := by decide +kernel
theorem dX5_readSea_63 : decode cX5_readSea 63 = .ok (.ifCond .ne (-38), 3) := by decide +kernel
theorem dX5_readSea_66 : decode cX5_readSea 66 = .ok (.iconst 0, 1) := by decide +kernel
theorem dX5_readSea_67 : decode cX5_readSea 67 = .ok (.ireturn, 1) := by decide +kernel
theorem dX5_readSea_68 : decode cX5_readSea 68 = .ok (.aload_n 0, 1) := by decide +kernel
theorem dX5_readSea_69 : decode cX5_readSea 69 = .ok (.getfield 77, 3) := by decide +kernel
theorem dX5_readSea_72 : decode cX5_readSea 72 = .ok (.iload_n 1, 1) := by decide +kernel
theorem dX5_readSea_73 : decode cX5_readSea 73 = .ok (.if_icmp .ne 7, 3) := by decide +kernel
theorem dX5_readSea_76 : decode cX5_readSea 76 = .ok (.iconst 1, 1) := by decide +kernel
theorem dX5_readSea_77 : decode cX5_readSea 77 = .ok (.goto 4, 3) := by decide +kernel
theorem dX5_readSea_80 : decode cX5_readSea 80 = .ok (.iconst 0, 1) := by decide +kernel
theorem dX5_readSea_81 : decode cX5_readSea 81 = .ok (.ireturn, 1) := by decide +kernel
theorem dX5_readThePorts_0 : decode cX5_readThePorts 0 = .ok (.aload_n 0, 1) := by decide +kernel
theorem dX5_readThePorts_1 : decode cX5_readThePorts 1 = .ok (.iconst 0, 1) := by decide +kernel
theorem dX5_readThePorts_2 : decode cX5_readThePorts 2 = .ok (.putfield 101, 3) := by decide +kernel
theorem dX5_readThePorts_5 : decode cX5_readThePorts 5 = .ok (.aload_n 0, 1) := by decide +kernel
theorem dX5_readThePorts_6 : decode cX5_readThePorts 6 = .ok (.getfield 101, 3) := by decide +kernel
theorem dX5_readThePorts_9 : decode cX5_readThePorts 9 = .ok (.bipush 6, 2) := by decide +kernel
theorem dX5_readThePorts_11 : decode cX5_readThePorts 11 = .ok (.if_icmp .ge 55, 3) := by decide +kernel
theorem dX5_readThePorts_14 : decode cX5_readThePorts 14 = .ok (.aload_n 0, 1) := by decide +kernel
theorem dX5_readThePorts_15 : decode cX5_readThePorts 15 = .ok (.iload_n 1, 1) := by decide +kernel
theorem dX5_readThePorts_16 : decode cX5_readThePorts 16 = .ok (.iconst 0, 1) := by decide +kernel
theorem dX5_readThePorts_17 : decode cX5_readThePorts 17 = .ok (.bipush 9, 2) := by decide +kernel
theorem dX5_readThePorts_19 : decode cX5_readThePorts 19 = .ok (.invokevirtual 123, 3) := by decide +kernel
theorem dX5_readThePorts_22 : decode cX5_readThePorts 22 = .ok (.istore_n 2, 1) := by decide +kernel
theorem dX5_readThePorts_23 : decode cX5_readThePorts 23 = .ok (.iload_n 2, 1) := by decide +kernel
theorem dX5_readThePorts_24 : decode cX5_readThePorts 24 = .ok (.bipush (-9), 2) := by decide +kernel
theorem dX5_readThePorts_26 : decode cX5_readThePorts 26 = .ok (.if_icmp .ne 17, 3) := by decide +kernel
theorem dX5_readThePorts_29 : decode cX5_readThePorts 29 = .ok (.aload_n 0, 1) := by decide +kernel
theorem dX5_readThePorts_30 : decode cX5_readThePorts 30 = .ok (.getfield 101, 3) := by decide +kernel
theorem dX5_readThePorts_33 : decode cX5_readThePorts 33 = .ok (.iconst 2, 1) := by decide +kernel
theorem dX5_readThePorts_34 : decode cX5_readThePorts 34 = .ok (.if_icmp .lt 7, 3) := by decide +kernel
theorem dX5_readThePorts_37 : decode cX5_readThePorts 37 = .ok (.iconst 1, 1) := by decide +kernel
theorem dX5_readThePorts_38 : decode cX5_readThePorts 38 = .ok (.goto 4, 3) := by decide +kernel
theorem dX5_readThePorts_41 : decode cX5_readThePorts 41 = .ok (.iconst 0, 1) := by decide +kernel
theorem dX5_readThePorts_42 : decode cX5_readThePorts 42 = .ok (.ireturn, 1) := by decide +kernel
theorem dX5_readThePorts_43 : decode cX5_readThePorts 43 = .ok (.aload_n 0, 1) := by decide +kernel
theorem dX5_readThePorts_44 : decode cX5_readThePorts 44 = .ok (.getfield 37, 3) := by decide +kernel
theorem dX5_readThePorts_47 : decode cX5_readThePorts 47 = .ok (.aload_n 0, 1) := by decide +kernel
theorem dX5_readThePorts_48 : decode cX5_readThePorts 48 = .ok (.getfield 101, 3) := by decide +kernel
theorem dX5_readThePorts_51 : decode cX5_readThePorts 51 = .ok (.iload_n 2, 1) := by decide +kernel
theorem dX5_readThePorts_52 : decode cX5_readThePorts 52 = .ok (.iastore, 1) := by decide +kernel
theorem dX5_readThePorts_53 : decode cX5_readThePorts 53 = .ok (.aload_n 0, 1) := by decide +kernel
theorem dX5_readThePorts_54 : decode cX5_readThePorts 54 = .ok (.dup, 1) := by decide +kernel
theorem dX5_readThePorts_55 : decode cX5_readThePorts 55 = .ok (.getfield 101, 3) := by decide +kernel
theorem dX5_readThePorts_58 : decode cX5_readThePorts 58 = .ok (.iconst 1, 1) := by decide +kernel
theorem dX5_readThePorts_59 : decode cX5_readThePorts 59 = .ok (.iadd, 1) := by decide +kernel
theorem dX5_readThePorts_60 : decode cX5_readThePorts 60 = .ok (.putfield 101, 3) := by decide +kernel
theorem dX5_readThePorts_63 : decode cX5_readThePorts 63 = .ok (.goto (-58), 3) := by decide +kernel
theorem dX5_readThePorts_66 : decode cX5_readThePorts 66 = .ok (.iconst 1, 1) := by decide +kernel
theorem dX5_readThePorts_67 : decode cX5_readThePorts 67 = .ok (.ireturn, 1) := by decide +kernel
theorem dX5_readShip_0 : decode cX5_readShip 0 = .ok (.aload_n 0, 1) := by decide +kernel
theorem dX5_readShip_1 : decode cX5_readShip 1 = .ok (.getfield 77, 3) := by decide +kernel
theorem dX5_readShip_4 : decode cX5_readShip 4 = .ok (.iload_n 1, 1) := by decide +kernel
theorem dX5_readShip_5 : decode cX5_readShip 5 = .ok (.if_icmp .ge 15, 3) := by decide +kernel
theorem dX5_readShip_8 : decode cX5_readShip 8 = .ok (.aload_n 0, 1) := by decide +kernel
theorem dX5_readShip_9 : decode cX5_readShip 9 = .ok (.getfield 16, 3) := by decide +kernel
theorem dX5_readShip_12 : decode cX5_readShip 12 = .ok (.aload_n 0, 1) := by decide +kernel
theorem dX5_readShip_13 : decode cX5_readShip 13 = .ok (.getfield 77, 3) := by decide +kernel
theorem dX5_readShip_16 : decode cX5_readShip 16 = .ok (.iaload, 1) := by decide +kernel
theorem dX5_readShip_17 : decode cX5_readShip 17 = .ok (.goto 4, 3) := by decide +kernel
theorem dX5_readShip_20 : decode cX5_readShip 20 = .ok (.iconst 0, 1) := by decide +kernel
theorem dX5_readShip_21 : decode cX5_readShip 21 = .ok (.istore_n 2, 1) := by decide +kernel
theorem dX5_readShip_22 : decode cX5_readShip 22 = .ok (.bipush 8, 2) := by decide +kernel
theorem dX5_readShip_24 : decode cX5_readShip 24 = .ok (.aload_n 0, 1) := by decide +kernel
theorem dX5_readShip_25 : decode cX5_readShip 25 = .ok (.getfield 104, 3) := by decide +kernel
theorem dX5_readShip_28 : decode cX5_readShip 28 = .ok (.imul, 1) := by decide +kernel
theorem dX5_readShip_29 : decode cX5_readShip 29 = .ok (.istore_n 3, 1) := by decide +kernel
theorem dX5_readShip_30 : decode cX5_readShip 30 = .ok (.aload_n 0, 1) := by decide +kernel
theorem dX5_readShip_31 : decode cX5_readShip 31 = .ok (.getfield 40, 3) := by decide +kernel
theorem dX5_readShip_34 : decode cX5_readShip 34 = .ok (.iload_n 3, 1) := by decide +kernel
theorem dX5_readShip_35 : decode cX5_readShip 35 = .ok (.iload_n 2, 1) := by decide +kernel
theorem dX5_readShip_36 : decode cX5_readShip 36 = .ok (.bipush 98, 2) := by decide +kernel
theorem dX5_readShip_38 : decode cX5_readShip 38 = .ok (.if_icmp .ne 7, 3) := by decide +kernel
theorem dX5_readShip_41 : decode cX5_readShip 41 = .ok (.iconst 0, 1) := by decide +kernel
theorem dX5_readShip_42 : decode cX5_readShip 42 = .ok (.goto 25, 3) := by decide +kernel
theorem dX5_readShip_45 : decode cX5_readShip 45 = .ok (.iload_n 2, 1) := by decide +kernel
theorem dX5_readShip_46 : decode cX5_readShip 46 = .ok (.bipush 99, 2) := by decide +kernel
theorem dX5_readShip_48 : decode cX5_readShip 48 = .ok (.if_icmp .ne 7, 3) := by decide +kernel
theorem dX5_readShip_51 : decode cX5_readShip 51 = .ok (.iconst 1, 1) := by decide +kernel
theorem dX5_readShip_52 : decode cX5_readShip 52 = .ok (.goto 15, 3) := by decide +kernel
theorem dX5_readShip_55 : decode cX5_readShip 55 = .ok (.iload_n 2, 1) := by decide +kernel
theorem dX5_readShip_56 : decode cX5_readShip 56 = .ok (.bipush 115, 2) := by decide +kernel
theorem dX5_readShip_58 : decode cX5_readShip 58 = .ok (.if_icmp .ne 7, 3) := by decide +kernel
theorem dX5_readShip_61 : decode cX5_readShip 61 = .ok (.iconst 2, 1) := by decide +kernel
theorem dX5_readShip_62 : decode cX5_readShip 62 = .ok (.goto 5, 3) := by decide +kernel
theorem dX5_readShip_65 : decode cX5_readShip 65 = .ok (.bipush (-9), 2) := by decide +kernel
theorem dX5_readShip_67 : decode cX5_readShip 67 = .ok (.iastore, 1) := by decide +kernel
theorem dX5_readShip_68 : decode cX5_readShip 68 = .ok (.aload_n 0, 1) := by decide +kernel
theorem dX5_readShip_69 : decode cX5_readShip 69 = .ok (.getfield 40, 3) := by decide +kernel
theorem dX5_readShip_72 : decode cX5_readShip 72 = .ok (.iload_n 3, 1) := by decide +kernel
theorem dX5_readShip_73 : decode cX5_readShip 73 = .ok (.iaload, 1) := by decide +kernel
theorem dX5_readShip_74 : decode cX5_readShip 74 = .ok (.bipush (-9), 2) := by decide +kernel
theorem dX5_readShip_76 : decode cX5_readShip 76 = .ok (.if_icmp .ne 5, 3) := by decide +kernel
theorem dX5_readShip_79 : decode cX5_readShip 79 = .ok (.iconst 0, 1) := by decide +kernel
theorem dX5_readShip_80 : decode cX5_readShip 80 = .ok (.ireturn, 1) := by decide +kernel
theorem dX5_readShip_81 : decode cX5_readShip 81 = .ok (.aload_n 0, 1) := by decide +kernel
theorem dX5_readShip_82 : decode cX5_readShip 82 = .ok (.dup, 1) := by decide +kernel
theorem dX5_readShip_83 : decode cX5_readShip 83 = .ok (.getfield 77, 3) := by decide +kernel
theorem dX5_readShip_86 : decode cX5_readShip 86 = .ok (.iconst 1, 1) := by decide +kernel
theorem dX5_readShip_87 : decode cX5_readShip 87 = .ok (.iadd, 1) := by decide +kernel
theorem dX5_readShip_88 : decode cX5_readShip 88 = .ok (.putfield 77, 3) := by decide +kernel
theorem dX5_readShip_91 : decode cX5_readShip 91 = .ok (.iconst 1, 1) := by decide +kernel
theorem dX5_readShip_92 : decode cX5_readShip 92 = .ok (.istore 4, 2) := by decide +kernel
theorem dX5_readShip_94 : decode cX5_readShip 94 = .ok (.iload 4, 2) := by decide +kernel
theorem dX5_readShip_96 : decode cX5_readShip 96 = .ok (.bipush 8, 2) := by decide +kernel
theorem dX5_readShip_98 : decode cX5_readShip 98 = .ok (.if_icmp .ge 67, 3) := by decide +kernel
theorem dX5_readShip_101 : decode cX5_readShip 101 = .ok (.aload_n 0, 1) := by decide +kernel
theorem dX5_readShip_102 : decode cX5_readShip 102 = .ok (.getfield 40, 3) := by decide +kernel
theorem dX5_readShip_105 : decode cX5_readShip 105 = .ok (.iload_n 3, 1) := by decide +kernel
theorem dX5_readShip_106 : decode cX5_readShip 106 = .ok (.iload 4, 2) := by decide +kernel
theorem dX5_readShip_108 : decode cX5_readShip 108 = .ok (.iadd, 1) := by decide +kernel
theorem dX5_readShip_109 : decode cX5_readShip 109 = .ok (.aload_n 0, 1) := by decide +kernel
theorem dX5_readShip_110 : decode cX5_readShip 110 = .ok (.iload_n 1, 1) := by decide +kernel
theorem dX5_readShip_111 : decode cX5_readShip 111 = .ok (.iconst 0, 1) := by decide +kernel
theorem dX5_readShip_112 : decode cX5_readShip 112 = .ok (.iload 4, 2) := by decide +kernel
theorem dX5_readShip_114 : decode cX5_readShip 114 = .ok (.iconst 1, 1) := by decide +kernel
theorem dX5_readShip_115 : decode cX5_readShip 115 = .ok (.if_icmp .ne 7, 3) := by decide +kernel
theorem dX5_readShip_118 : decode cX5_readShip 118 = .ok (.iconst 3, 1) := by decide +kernel
theorem dX5_readShip_119 : decode cX5_readShip 119 = .ok (.goto 20, 3) := by decide +kernel
theorem dX5_readShip_122 : decode cX5_readShip 122 = .ok (.iload 4, 2) := by decide +kernel
theorem dX5_readShip_124 : decode cX5_readShip 124 = .ok (.iconst 3, 1) := by decide +kernel
theorem dX5_readShip_125 : decode cX5_readShip 125 = .ok (.if_icmp .ne 12, 3) := by decide +kernel
theorem dX5_readShip_128 : decode cX5_readShip 128 = .ok (.aload_n 0, 1) := by decide +kernel
theorem dX5_readShip_129 : decode cX5_readShip 129 = .ok (.getfield 101, 3) := by decide +kernel
theorem dX5_readShip_132 : decode cX5_readShip 132 = .ok (.iconst 1, 1) := by decide +kernel
theorem dX5_readShip_133 : decode cX5_readShip 133 = .ok (.isub, 1) := by decide +kernel
theorem dX5_readShip_134 : decode cX5_readShip 134 = .ok (.goto 5, 3) := by decide +kernel
theorem dX5_readShip_137 : decode cX5_readShip 137 = .ok (.bipush 9, 2) := by decide +kernel
theorem dX5_readShip_139 : decode cX5_readShip 139 = .ok (.invokevirtual 123, 3) := by decide +kernel
theorem dX5_readShip_142 : decode cX5_readShip 142 = .ok (.iastore, 1) := by decide +kernel
theorem dX5_readShip_143 : decode cX5_readShip 143 = .ok (.aload_n 0, 1) := by decide +kernel
theorem dX5_readShip_144 : decode cX5_readShip 144 = .ok (.getfield 40, 3) := by decide +kernel
theorem dX5_readShip_147 : decode cX5_readShip 147 = .ok (.iload_n 3, 1) := by decide +kernel
theorem dX5_readShip_148 : decode cX5_readShip 148 = .ok (.iload 4, 2) := by decide +kernel
theorem dX5_readShip_150 : decode cX5_readShip 150 = .ok (.iadd, 1) := by decide +kernel
theorem dX5_readShip_151 : decode cX5_readShip 151 = .ok (.iaload, 1) := by decide +kernel
theorem dX5_readShip_152 : decode cX5_readShip 152 = .ok (.bipush (-9), 2) := by decide +kernel
theorem dX5_readShip_154 : decode cX5_readShip 154 = .ok (.if_icmp .ne 5, 3) := by decide +kernel
theorem dX5_readShip_157 : decode cX5_readShip 157 = .ok (.iconst 0, 1) := by decide +kernel
theorem dX5_readShip_158 : decode cX5_readShip 158 = .ok (.ireturn, 1) := by decide +kernel
theorem dX5_readShip_159 : decode cX5_readShip 159 = .ok (.iinc 4 1, 3) := by decide +kernel
theorem dX5_readShip_162 : decode cX5_readShip 162 = .ok (.goto (-68), 3) := by decide +kernel
theorem dX5_readShip_165 : decode cX5_readShip 165 = .ok (.aload_n 0, 1) := by decide +kernel
theorem dX5_readShip_166 : decode cX5_readShip 166 = .ok (.dup, 1) := by decide +kernel
theorem dX5_readShip_167 : decode cX5_readShip 167 = .ok (.getfield 104, 3) := by decide +kernel
theorem dX5_readShip_170 : decode cX5_readShip 170 = .ok (.iconst 1, 1) := by decide +kernel
theorem dX5_readShip_171 : decode cX5_readShip 171 = .ok (.iadd, 1) := by decide +kernel
theorem dX5_readShip_172 : decode cX5_readShip 172 = .ok (.putfield 104, 3) := by decide +kernel
theorem dX5_readShip_175 : decode cX5_readShip 175 = .ok (.iconst 1, 1) := by decide +kernel
theorem dX5_readShip_176 : decode cX5_readShip 176 = .ok (.ireturn, 1) := by decide +kernel
theorem dX5_bearsOf_0 : decode cX5_bearsOf 0 = .ok (.aload_n 0, 1) := by decide +kernel
theorem dX5_bearsOf_1 : decode cX5_bearsOf 1 = .ok (.getfield 22, 3) := by decide +kernel
theorem dX5_bearsOf_4 : decode cX5_bearsOf 4 = .ok (.iload_n 1, 1) := by decide +kernel
theorem dX5_bearsOf_5 : decode cX5_bearsOf 5 = .ok (.iaload, 1) := by decide +kernel
theorem dX5_bearsOf_6 : decode cX5_bearsOf 6 = .ok (.ifCond .ne 12, 3) := by decide +kernel
theorem dX5_bearsOf_9 : decode cX5_bearsOf 9 = .ok (.aload_n 0, 1) := by decide +kernel
theorem dX5_bearsOf_10 : decode cX5_bearsOf 10 = .ok (.getfield 28, 3) := by decide +kernel
theorem dX5_bearsOf_13 : decode cX5_bearsOf 13 = .ok (.iload_n 1, 1) := by decide +kernel
theorem dX5_bearsOf_14 : decode cX5_bearsOf 14 = .ok (.iaload, 1) := by decide +kernel
theorem dX5_bearsOf_15 : decode cX5_bearsOf 15 = .ok (.goto 32, 3) := by decide +kernel
theorem dX5_bearsOf_18 : decode cX5_bearsOf 18 = .ok (.aload_n 0, 1) := by decide +kernel
theorem dX5_bearsOf_19 : decode cX5_bearsOf 19 = .ok (.getfield 22, 3) := by decide +kernel
theorem dX5_bearsOf_22 : decode cX5_bearsOf 22 = .ok (.iload_n 1, 1) := by decide +kernel
theorem dX5_bearsOf_23 : decode cX5_bearsOf 23 = .ok (.iaload, 1) := by decide +kernel
theorem dX5_bearsOf_24 : decode cX5_bearsOf 24 = .ok (.iconst 1, 1) := by decide +kernel
theorem dX5_bearsOf_25 : decode cX5_bearsOf 25 = .ok (.if_icmp .ne 14, 3) := by decide +kernel
theorem dX5_bearsOf_28 : decode cX5_bearsOf 28 = .ok (.aload_n 0, 1) := by decide +kernel
theorem dX5_bearsOf_29 : decode cX5_bearsOf 29 = .ok (.getfield 28, 3) := by decide +kernel
theorem dX5_bearsOf_32 : decode cX5_bearsOf 32 = .ok (.iload_n 1, 1) := by decide +kernel
theorem dX5_bearsOf_33 : decode cX5_bearsOf 33 = .ok (.iaload, 1) := by decide +kernel
theorem dX5_bearsOf_34 : decode cX5_bearsOf 34 = .ok (.iconst 1, 1) := by decide +kernel
theorem dX5_bearsOf_35 : decode cX5_bearsOf 35 = .ok (.iadd, 1) := by decide +kernel
theorem dX5_bearsOf_36 : decode cX5_bearsOf 36 = .ok (.goto 11, 3) := by decide +kernel
theorem dX5_bearsOf_39 : decode cX5_bearsOf 39 = .ok (.iconst 2, 1) := by decide +kernel
theorem dX5_bearsOf_40 : decode cX5_bearsOf 40 = .ok (.aload_n 0, 1) := by decide +kernel
theorem dX5_bearsOf_41 : decode cX5_bearsOf 41 = .ok (.getfield 28, 3) := by decide +kernel
theorem dX5_bearsOf_44 : decode cX5_bearsOf 44 = .ok (.iload_n 1, 1) := by decide +kernel
theorem dX5_bearsOf_45 : decode cX5_bearsOf 45 = .ok (.iaload, 1) := by decide +kernel
theorem dX5_bearsOf_46 : decode cX5_bearsOf 46 = .ok (.imul, 1) := by decide +kernel
theorem dX5_bearsOf_47 : decode cX5_bearsOf 47 = .ok (.ireturn, 1) := by decide +kernel
theorem dX5_isMet_0 : decode cX5_isMet 0 = .ok (.aload_n 0, 1) := by decide +kernel
theorem dX5_isMet_1 : decode cX5_isMet 1 = .ok (.getfield 34, 3) := by decide +kernel
theorem dX5_isMet_4 : decode cX5_isMet 4 = .ok (.iconst 4, 1) := by decide +kernel
theorem dX5_isMet_5 : decode cX5_isMet 5 = .ok (.iload_n 1, 1) := by decide +kernel
theorem dX5_isMet_6 : decode cX5_isMet 6 = .ok (.imul, 1) := by decide +kernel
theorem dX5_isMet_7 : decode cX5_isMet 7 = .ok (.aload_n 0, 1) := by decide +kernel
theorem dX5_isMet_8 : decode cX5_isMet 8 = .ok (.getfield 25, 3) := by decide +kernel
theorem dX5_isMet_11 : decode cX5_isMet 11 = .ok (.iload_n 1, 1) := by decide +kernel
theorem dX5_isMet_12 : decode cX5_isMet 12 = .ok (.iaload, 1) := by decide +kernel
theorem dX5_isMet_13 : decode cX5_isMet 13 = .ok (.iadd, 1) := by decide +kernel
theorem dX5_isMet_14 : decode cX5_isMet 14 = .ok (.iaload, 1) := by decide +kernel
theorem dX5_isMet_15 : decode cX5_isMet 15 = .ok (.ifCond .ne 7, 3) := by decide +kernel
theorem dX5_isMet_18 : decode cX5_isMet 18 = .ok (.iconst 1, 1) := by decide +kernel
theorem dX5_isMet_19 : decode cX5_isMet 19 = .ok (.goto 4, 3) := by decide +kernel
theorem dX5_isMet_22 : decode cX5_isMet 22 = .ok (.iconst 0, 1) := by decide +kernel
theorem dX5_isMet_23 : decode cX5_isMet 23 = .ok (.ireturn, 1) := by decide +kernel
theorem dX5_worthOf_0 : decode cX5_worthOf 0 = .ok (.iconst 0, 1) := by decide +kernel
theorem dX5_worthOf_1 : decode cX5_worthOf 1 = .ok (.istore_n 2, 1) := by decide +kernel
theorem dX5_worthOf_2 : decode cX5_worthOf 2 = .ok (.iconst 0, 1) := by decide +kernel
theorem dX5_worthOf_3 : decode cX5_worthOf 3 = .ok (.istore_n 3, 1) := by decide +kernel
theorem dX5_worthOf_4 : decode cX5_worthOf 4 = .ok (.iload_n 3, 1) := by decide +kernel
theorem dX5_worthOf_5 : decode cX5_worthOf 5 = .ok (.iconst 4, 1) := by decide +kernel
theorem dX5_worthOf_6 : decode cX5_worthOf 6 = .ok (.if_icmp .ge 26, 3) := by decide +kernel
theorem dX5_worthOf_9 : decode cX5_worthOf 9 = .ok (.iload_n 2, 1) := by decide +kernel
theorem dX5_worthOf_10 : decode cX5_worthOf 10 = .ok (.iload_n 3, 1) := by decide +kernel
theorem dX5_worthOf_11 : decode cX5_worthOf 11 = .ok (.iconst 1, 1) := by decide +kernel
theorem dX5_worthOf_12 : decode cX5_worthOf 12 = .ok (.iadd, 1) := by decide +kernel
theorem dX5_worthOf_13 : decode cX5_worthOf 13 = .ok (.aload_n 0, 1) := by decide +kernel
theorem dX5_worthOf_14 : decode cX5_worthOf 14 = .ok (.getfield 34, 3) := by decide +kernel
theorem dX5_worthOf_17 : decode cX5_worthOf 17 = .ok (.iconst 4, 1) := by decide +kernel
theorem dX5_worthOf_18 : decode cX5_worthOf 18 = .ok (.iload_n 1, 1) := by decide +kernel
theorem dX5_worthOf_19 : decode cX5_worthOf 19 = .ok (.imul, 1) := by decide +kernel
theorem dX5_worthOf_20 : decode cX5_worthOf 20 = .ok (.iload_n 3, 1) := by decide +kernel
theorem dX5_worthOf_21 : decode cX5_worthOf 21 = .ok (.iadd, 1) := by decide +kernel
theorem dX5_worthOf_22 : decode cX5_worthOf 22 = .ok (.iaload, 1) := by decide +kernel
theorem dX5_worthOf_23 : decode cX5_worthOf 23 = .ok (.imul, 1) := by decide +kernel
theorem dX5_worthOf_24 : decode cX5_worthOf 24 = .ok (.iadd, 1) := by decide +kernel
theorem dX5_worthOf_25 : decode cX5_worthOf 25 = .ok (.istore_n 2, 1) := by decide +kernel
theorem dX5_worthOf_26 : decode cX5_worthOf 26 = .ok (.iinc 3 1, 3) := by decide +kernel
theorem dX5_worthOf_29 : decode cX5_worthOf 29 = .ok (.goto (-25), 3) := by decide +kernel
theorem dX5_worthOf_32 : decode cX5_worthOf 32 = .ok (.iload_n 2, 1) := by decide +kernel
theorem dX5_worthOf_33 : decode cX5_worthOf 33 = .ok (.ireturn, 1) := by decide +kernel
theorem dX5_piecesOf_0 : decode cX5_piecesOf 0 = .ok (.iconst 0, 1) := by decide +kernel
theorem dX5_piecesOf_1 : decode cX5_piecesOf 1 = .ok (.istore_n 2, 1) := by decide +kernel
theorem dX5_piecesOf_2 : decode cX5_piecesOf 2 = .ok (.iconst 0, 1) := by decide +kernel
theorem dX5_piecesOf_3 : decode cX5_piecesOf 3 = .ok (.istore_n 3, 1) := by decide +kernel
theorem dX5_piecesOf_4 : decode cX5_piecesOf 4 = .ok (.iload_n 3, 1) := by decide +kernel
theorem dX5_piecesOf_5 : decode cX5_piecesOf 5 = .ok (.iconst 4, 1) := by decide +kernel
theorem dX5_piecesOf_6 : decode cX5_piecesOf 6 = .ok (.if_icmp .ge 22, 3) := by decide +kernel
theorem dX5_piecesOf_9 : decode cX5_piecesOf 9 = .ok (.iload_n 2, 1) := by decide +kernel
theorem dX5_piecesOf_10 : decode cX5_piecesOf 10 = .ok (.aload_n 0, 1) := by decide +kernel
theorem dX5_piecesOf_11 : decode cX5_piecesOf 11 = .ok (.getfield 34, 3) := by decide +kernel
theorem dX5_piecesOf_14 : decode cX5_piecesOf 14 = .ok (.iconst 4, 1) := by decide +kernel
theorem dX5_piecesOf_15 : decode cX5_piecesOf 15 = .ok (.iload_n 1, 1) := by decide +kernel
theorem dX5_piecesOf_16 : decode cX5_piecesOf 16 = .ok (.imul, 1) := by decide +kernel
theorem dX5_piecesOf_17 : decode cX5_piecesOf 17 = .ok (.iload_n 3, 1) := by decide +kernel
theorem dX5_piecesOf_18 : decode cX5_piecesOf 18 = .ok (.iadd, 1) := by decide +kernel
theorem dX5_piecesOf_19 : decode cX5_piecesOf 19 = .ok (.iaload, 1) := by decide +kernel
theorem dX5_piecesOf_20 : decode cX5_piecesOf 20 = .ok (.iadd, 1) := by decide +kernel
theorem dX5_piecesOf_21 : decode cX5_piecesOf 21 = .ok (.istore_n 2, 1) := by decide +kernel
theorem dX5_piecesOf_22 : decode cX5_piecesOf 22 = .ok (.iinc 3 1, 3) := by decide +kernel
theorem dX5_piecesOf_25 : decode cX5_piecesOf 25 = .ok (.goto (-21), 3) := by decide +kernel
theorem dX5_piecesOf_28 : decode cX5_piecesOf 28 = .ok (.iload_n 2, 1) := by decide +kernel
theorem dX5_piecesOf_29 : decode cX5_piecesOf 29 = .ok (.ireturn, 1) := by decide +kernel
theorem dX5_ofShip_0 : decode cX5_ofShip 0 = .ok (.aload_n 0, 1) := by decide +kernel
theorem dX5_ofShip_1 : decode cX5_ofShip 1 = .ok (.iload_n 1, 1) := by decide +kernel
theorem dX5_ofShip_2 : decode cX5_ofShip 2 = .ok (.invokevirtual 127, 3) := by decide +kernel
theorem dX5_ofShip_5 : decode cX5_ofShip 5 = .ok (.ifCond .ne 5, 3) := by decide +kernel
theorem dX5_ofShip_8 : decode cX5_ofShip 8 = .ok (.iconst (-1), 1) := by decide +kernel
theorem dX5_ofShip_9 : decode cX5_ofShip 9 = .ok (.ireturn, 1) := by decide +kernel
theorem dX5_ofShip_10 : decode cX5_ofShip 10 = .ok (.iload_n 2, 1) := by decide +kernel
theorem dX5_ofShip_11 : decode cX5_ofShip 11 = .ok (.tableswitch 105 0 7 #[45, 52, 59, 66, 72, 79, 93, 99], 45) := by decide +kernel
theorem dX5_ofShip_56 : decode cX5_ofShip 56 = .ok (.aload_n 0, 1) := by decide +kernel
theorem dX5_ofShip_57 : decode cX5_ofShip 57 = .ok (.getfield 22, 3) := by decide +kernel
theorem dX5_ofShip_60 : decode cX5_ofShip 60 = .ok (.iload_n 1, 1) := by decide +kernel
theorem dX5_ofShip_61 : decode cX5_ofShip 61 = .ok (.iaload, 1) := by decide +kernel
theorem dX5_ofShip_62 : decode cX5_ofShip 62 = .ok (.ireturn, 1) := by decide +kernel
theorem dX5_ofShip_63 : decode cX5_ofShip 63 = .ok (.aload_n 0, 1) := by decide +kernel
theorem dX5_ofShip_64 : decode cX5_ofShip 64 = .ok (.getfield 25, 3) := by decide +kernel
theorem dX5_ofShip_67 : decode cX5_ofShip 67 = .ok (.iload_n 1, 1) := by decide +kernel
theorem dX5_ofShip_68 : decode cX5_ofShip 68 = .ok (.iaload, 1) := by decide +kernel
theorem dX5_ofShip_69 : decode cX5_ofShip 69 = .ok (.ireturn, 1) := by decide +kernel
theorem dX5_ofShip_70 : decode cX5_ofShip 70 = .ok (.aload_n 0, 1) := by decide +kernel
theorem dX5_ofShip_71 : decode cX5_ofShip 71 = .ok (.getfield 28, 3) := by decide +kernel
theorem dX5_ofShip_74 : decode cX5_ofShip 74 = .ok (.iload_n 1, 1) := by decide +kernel
theorem dX5_ofShip_75 : decode cX5_ofShip 75 = .ok (.iaload, 1) := by decide +kernel
theorem dX5_ofShip_76 : decode cX5_ofShip 76 = .ok (.ireturn, 1) := by decide +kernel
theorem dX5_ofShip_77 : decode cX5_ofShip 77 = .ok (.aload_n 0, 1) := by decide +kernel
theorem dX5_ofShip_78 : decode cX5_ofShip 78 = .ok (.iload_n 1, 1) := by decide +kernel
theorem dX5_ofShip_79 : decode cX5_ofShip 79 = .ok (.invokevirtual 130, 3) := by decide +kernel
theorem dX5_ofShip_82 : decode cX5_ofShip 82 = .ok (.ireturn, 1) := by decide +kernel
theorem dX5_ofShip_83 : decode cX5_ofShip 83 = .ok (.aload_n 0, 1) := by decide +kernel
theorem dX5_ofShip_84 : decode cX5_ofShip 84 = .ok (.getfield 31, 3) := by decide +kernel
theorem dX5_ofShip_87 : decode cX5_ofShip 87 = .ok (.iload_n 1, 1) := by decide +kernel
theorem dX5_ofShip_88 : decode cX5_ofShip 88 = .ok (.iaload, 1) := by decide +kernel
theorem dX5_ofShip_89 : decode cX5_ofShip 89 = .ok (.ireturn, 1) := by decide +kernel
theorem dX5_ofShip_90 : decode cX5_ofShip 90 = .ok (.aload_n 0, 1) := by decide +kernel
theorem dX5_ofShip_91 : decode cX5_ofShip 91 = .ok (.iload_n 1, 1) := by decide +kernel
theorem dX5_ofShip_92 : decode cX5_ofShip 92 = .ok (.invokevirtual 133, 3) := by decide +kernel
theorem dX5_ofShip_95 : decode cX5_ofShip 95 = .ok (.ifCond .eq 7, 3) := by decide +kernel
theorem dX5_ofShip_98 : decode cX5_ofShip 98 = .ok (.iconst 1, 1) := by decide +kernel
theorem dX5_ofShip_99 : decode cX5_ofShip 99 = .ok (.goto 4, 3) := by decide +kernel
theorem dX5_ofShip_102 : decode cX5_ofShip 102 = .ok (.iconst 0, 1) := by decide +kernel
theorem dX5_ofShip_103 : decode cX5_ofShip 103 = .ok (.ireturn, 1) := by decide +kernel
theorem dX5_ofShip_104 : decode cX5_ofShip 104 = .ok (.aload_n 0, 1) := by decide +kernel
theorem dX5_ofShip_105 : decode cX5_ofShip 105 = .ok (.iload_n 1, 1) := by decide +kernel
theorem dX5_ofShip_106 : decode cX5_ofShip 106 = .ok (.invokevirtual 136, 3) := by decide +kernel
theorem dX5_ofShip_109 : decode cX5_ofShip 109 = .ok (.ireturn, 1) := by decide +kernel
theorem dX5_ofShip_110 : decode cX5_ofShip 110 = .ok (.aload_n 0, 1) := by decide +kernel
theorem dX5_ofShip_111 : decode cX5_ofShip 111 = .ok (.iload_n 1, 1) := by decide +kernel
theorem dX5_ofShip_112 : decode cX5_ofShip 112 = .ok (.invokevirtual 139, 3) := by decide +kernel
theorem dX5_ofShip_115 : decode cX5_ofShip 115 = .ok (.ireturn, 1) := by decide +kernel
theorem dX5_ofShip_116 : decode cX5_ofShip 116 = .ok (.iload_n 2, 1) := by decide +kernel
theorem dX5_ofShip_117 : decode cX5_ofShip 117 = .ok (.bipush 10, 2) := by decide +kernel
theorem dX5_ofShip_119 : decode cX5_ofShip 119 = .ok (.bipush 13, 2) := by decide +kernel
theorem dX5_ofShip_121 : decode cX5_ofShip 121 = .ok (.invokestatic 67, 3) := by decide +kernel
theorem dX5_ofShip_124 : decode cX5_ofShip 124 = .ok (.ifCond .eq 19, 3) := by decide +kernel
theorem dX5_ofShip_127 : decode cX5_ofShip 127 = .ok (.aload_n 0, 1) := by decide +kernel
theorem dX5_ofShip_128 : decode cX5_ofShip 128 = .ok (.getfield 34, 3) := by decide +kernel
theorem dX5_ofShip_131 : decode cX5_ofShip 131 = .ok (.iconst 4, 1) := by decide +kernel
theorem dX5_ofShip_132 : decode cX5_ofShip 132 = .ok (.iload_n 1, 1) := by decide +kernel
theorem dX5_ofShip_133 : decode cX5_ofShip 133 = .ok (.imul, 1) := by decide +kernel
theorem dX5_ofShip_134 : decode cX5_ofShip 134 = .ok (.iload_n 2, 1) := by decide +kernel
theorem dX5_ofShip_135 : decode cX5_ofShip 135 = .ok (.iadd, 1) := by decide +kernel
theorem dX5_ofShip_136 : decode cX5_ofShip 136 = .ok (.bipush 10, 2) := by decide +kernel
theorem dX5_ofShip_138 : decode cX5_ofShip 138 = .ok (.isub, 1) := by decide +kernel
theorem dX5_ofShip_139 : decode cX5_ofShip 139 = .ok (.iaload, 1) := by decide +kernel
theorem dX5_ofShip_140 : decode cX5_ofShip 140 = .ok (.goto 5, 3) := by decide +kernel
theorem dX5_ofShip_143 : decode cX5_ofShip 143 = .ok (.bipush (-2), 2) := by decide +kernel
theorem dX5_ofShip_145 : decode cX5_ofShip 145 = .ok (.ireturn, 1) := by decide +kernel
theorem dX5_rough_0 : decode cX5_rough 0 = .ok (.aload_n 0, 1) := by decide +kernel
theorem dX5_rough_1 : decode cX5_rough 1 = .ok (.iload_n 1, 1) := by decide +kernel
theorem dX5_rough_2 : decode cX5_rough 2 = .ok (.invokevirtual 142, 3) := by decide +kernel
theorem dX5_rough_5 : decode cX5_rough 5 = .ok (.ifCond .eq 12, 3) := by decide +kernel
theorem dX5_rough_8 : decode cX5_rough 8 = .ok (.aload_n 0, 1) := by decide +kernel
theorem dX5_rough_9 : decode cX5_rough 9 = .ok (.getfield 19, 3) := by decide +kernel
theorem dX5_rough_12 : decode cX5_rough 12 = .ok (.iload_n 1, 1) := by decide +kernel
theorem dX5_rough_13 : decode cX5_rough 13 = .ok (.iaload, 1) := by decide +kernel
theorem dX5_rough_14 : decode cX5_rough 14 = .ok (.goto 4, 3) := by decide +kernel
theorem dX5_rough_17 : decode cX5_rough 17 = .ok (.iconst (-1), 1) := by decide +kernel
theorem dX5_rough_18 : decode cX5_rough 18 = .ok (.ireturn, 1) := by decide +kernel
theorem dX5_blow_0 : decode cX5_blow 0 = .ok (.aload_n 0, 1) := by decide +kernel
theorem dX5_blow_1 : decode cX5_blow 1 = .ok (.iload_n 1, 1) := by decide +kernel
theorem dX5_blow_2 : decode cX5_blow 2 = .ok (.invokevirtual 142, 3) := by decide +kernel
theorem dX5_blow_5 : decode cX5_blow 5 = .ok (.ifCond .ne 5, 3) := by decide +kernel
theorem dX5_blow_8 : decode cX5_blow 8 = .ok (.iconst (-1), 1) := by decide +kernel
theorem dX5_blow_9 : decode cX5_blow 9 = .ok (.ireturn, 1) := by decide +kernel
theorem dX5_blow_10 : decode cX5_blow 10 = .ok (.iload_n 2, 1) := by decide +kernel
theorem dX5_blow_11 : decode cX5_blow 11 = .ok (.invokestatic 145, 3) := by decide +kernel
theorem dX5_blow_14 : decode cX5_blow 14 = .ok (.ifCond .ne 6, 3) := by decide +kernel
theorem dX5_blow_17 : decode cX5_blow 17 = .ok (.bipush (-2), 2) := by decide +kernel
theorem dX5_blow_19 : decode cX5_blow 19 = .ok (.ireturn, 1) := by decide +kernel
theorem dX5_blow_20 : decode cX5_blow 20 = .ok (.aload_n 0, 1) := by decide +kernel
theorem dX5_blow_21 : decode cX5_blow 21 = .ok (.getfield 19, 3) := by decide +kernel
theorem dX5_blow_24 : decode cX5_blow 24 = .ok (.iload_n 1, 1) := by decide +kernel
theorem dX5_blow_25 : decode cX5_blow 25 = .ok (.iaload, 1) := by decide +kernel
theorem dX5_blow_26 : decode cX5_blow 26 = .ok (.istore_n 3, 1) := by decide +kernel
theorem dX5_blow_27 : decode cX5_blow 27 = .ok (.aload_n 0, 1) := by decide +kernel
theorem dX5_blow_28 : decode cX5_blow 28 = .ok (.getfield 19, 3) := by decide +kernel
theorem dX5_blow_31 : decode cX5_blow 31 = .ok (.iload_n 1, 1) := by decide +kernel
theorem dX5_blow_32 : decode cX5_blow 32 = .ok (.iload_n 2, 1) := by decide +kernel
theorem dX5_blow_33 : decode cX5_blow 33 = .ok (.iastore, 1) := by decide +kernel
theorem dX5_blow_34 : decode cX5_blow 34 = .ok (.iload_n 3, 1) := by decide +kernel
theorem dX5_blow_35 : decode cX5_blow 35 = .ok (.ireturn, 1) := by decide +kernel
theorem dX5_name_0 : decode cX5_name 0 = .ok (.aload_n 0, 1) := by decide +kernel
theorem dX5_name_1 : decode cX5_name 1 = .ok (.iload_n 1, 1) := by decide +kernel
theorem dX5_name_2 : decode cX5_name 2 = .ok (.invokevirtual 127, 3) := by decide +kernel
theorem dX5_name_5 : decode cX5_name 5 = .ok (.ifCond .ne 5, 3) := by decide +kernel
theorem dX5_name_8 : decode cX5_name 8 = .ok (.iconst (-1), 1) := by decide +kernel
theorem dX5_name_9 : decode cX5_name 9 = .ok (.ireturn, 1) := by decide +kernel
theorem dX5_name_10 : decode cX5_name 10 = .ok (.iload_n 2, 1) := by decide +kernel
theorem dX5_name_11 : decode cX5_name 11 = .ok (.invokestatic 148, 3) := by decide +kernel
theorem dX5_name_14 : decode cX5_name 14 = .ok (.ifCond .ne 6, 3) := by decide +kernel
theorem dX5_name_17 : decode cX5_name 17 = .ok (.bipush (-2), 2) := by decide +kernel
theorem dX5_name_19 : decode cX5_name 19 = .ok (.ireturn, 1) := by decide +kernel
theorem dX5_name_20 : decode cX5_name 20 = .ok (.aload_n 0, 1) := by decide +kernel
theorem dX5_name_21 : decode cX5_name 21 = .ok (.getfield 25, 3) := by decide +kernel
theorem dX5_name_24 : decode cX5_name 24 = .ok (.iload_n 1, 1) := by decide +kernel
theorem dX5_name_25 : decode cX5_name 25 = .ok (.iaload, 1) := by decide +kernel
theorem dX5_name_26 : decode cX5_name 26 = .ok (.istore_n 3, 1) := by decide +kernel
theorem dX5_name_27 : decode cX5_name 27 = .ok (.aload_n 0, 1) := by decide +kernel
theorem dX5_name_28 : decode cX5_name 28 = .ok (.getfield 25, 3) := by decide +kernel
theorem dX5_name_31 : decode cX5_name 31 = .ok (.iload_n 1, 1) := by decide +kernel
theorem dX5_name_32 : decode cX5_name 32 = .ok (.iload_n 2, 1) := by decide +kernel
theorem dX5_name_33 : decode cX5_name 33 = .ok (.iastore, 1) := by decide +kernel
theorem dX5_name_34 : decode cX5_name 34 = .ok (.iload_n 3, 1) := by decide +kernel
theorem dX5_name_35 : decode cX5_name 35 = .ok (.ireturn, 1) := by decide +kernel
theorem dX5_wouldLose_0 : decode cX5_wouldLose 0 = .ok (.aload_n 0, 1) := by decide +kernel
theorem dX5_wouldLose_1 : decode cX5_wouldLose 1 = .ok (.iload_n 1, 1) := by decide +kernel
theorem dX5_wouldLose_2 : decode cX5_wouldLose 2 = .ok (.invokevirtual 133, 3) := by decide +kernel
theorem dX5_wouldLose_5 : decode cX5_wouldLose 5 = .ok (.ifCond .ne 10, 3) := by decide +kernel
theorem dX5_wouldLose_8 : decode cX5_wouldLose 8 = .ok (.aload_n 0, 1) := by decide +kernel
theorem dX5_wouldLose_9 : decode cX5_wouldLose 9 = .ok (.getfield 25, 3) := by decide +kernel
theorem dX5_wouldLose_12 : decode cX5_wouldLose 12 = .ok (.iload_n 1, 1) := by decide +kernel
theorem dX5_wouldLose_13 : decode cX5_wouldLose 13 = .ok (.iaload, 1) := by decide +kernel
theorem dX5_wouldLose_14 : decode cX5_wouldLose 14 = .ok (.ireturn, 1) := by decide +kernel
theorem dX5_wouldLose_15 : decode cX5_wouldLose 15 = .ok (.iconst 0, 1) := by decide +kernel
theorem dX5_wouldLose_16 : decode cX5_wouldLose 16 = .ok (.istore_n 2, 1) := by decide +kernel
theorem dX5_wouldLose_17 : decode cX5_wouldLose 17 = .ok (.iload_n 2, 1) := by decide +kernel
theorem dX5_wouldLose_18 : decode cX5_wouldLose 18 = .ok (.iconst 4, 1) := by decide +kernel
theorem dX5_wouldLose_19 : decode cX5_wouldLose 19 = .ok (.if_icmp .ge 24, 3) := by decide +kernel
theorem dX5_wouldLose_22 : decode cX5_wouldLose 22 = .ok (.aload_n 0, 1) := by decide +kernel
theorem dX5_wouldLose_23 : decode cX5_wouldLose 23 = .ok (.getfield 34, 3) := by decide +kernel
theorem dX5_wouldLose_26 : decode cX5_wouldLose 26 = .ok (.iconst 4, 1) := by decide +kernel
theorem dX5_wouldLose_27 : decode cX5_wouldLose 27 = .ok (.iload_n 1, 1) := by decide +kernel
theorem dX5_wouldLose_28 : decode cX5_wouldLose 28 = .ok (.imul, 1) := by decide +kernel
theorem dX5_wouldLose_29 : decode cX5_wouldLose 29 = .ok (.iload_n 2, 1) := by decide +kernel
theorem dX5_wouldLose_30 : decode cX5_wouldLose 30 = .ok (.iadd, 1) := by decide +kernel
theorem dX5_wouldLose_31 : decode cX5_wouldLose 31 = .ok (.iaload, 1) := by decide +kernel
theorem dX5_wouldLose_32 : decode cX5_wouldLose 32 = .ok (.ifCond .le 5, 3) := by decide +kernel
theorem dX5_wouldLose_35 : decode cX5_wouldLose 35 = .ok (.iload_n 2, 1) := by decide +kernel
theorem dX5_wouldLose_36 : decode cX5_wouldLose 36 = .ok (.ireturn, 1) := by decide +kernel
theorem dX5_wouldLose_37 : decode cX5_wouldLose 37 = .ok (.iinc 2 1, 3) := by decide +kernel
theorem dX5_wouldLose_40 : decode cX5_wouldLose 40 = .ok (.goto (-23), 3) := by decide +kernel
theorem dX5_wouldLose_43 : decode cX5_wouldLose 43 = .ok (.bipush (-9), 2) := by decide +kernel
theorem dX5_wouldLose_45 : decode cX5_wouldLose 45 = .ok (.ireturn, 1) := by decide +kernel
theorem dX5_goesOn_0 : decode cX5_goesOn 0 = .ok (.aload_n 0, 1) := by decide +kernel
theorem dX5_goesOn_1 : decode cX5_goesOn 1 = .ok (.getfield 19, 3) := by decide +kernel
theorem dX5_goesOn_4 : decode cX5_goesOn 4 = .ok (.aload_n 0, 1) := by decide +kernel
theorem dX5_goesOn_5 : decode cX5_goesOn 5 = .ok (.getfield 31, 3) := by decide +kernel
theorem dX5_goesOn_8 : decode cX5_goesOn 8 = .ok (.iload_n 1, 1) := by decide +kernel
theorem dX5_goesOn_9 : decode cX5_goesOn 9 = .ok (.iaload, 1) := by decide +kernel
theorem dX5_goesOn_10 : decode cX5_goesOn 10 = .ok (.iaload, 1) := by decide +kernel
theorem dX5_goesOn_11 : decode cX5_goesOn 11 = .ok (.aload_n 0, 1) := by decide +kernel
theorem dX5_goesOn_12 : decode cX5_goesOn 12 = .ok (.iload_n 1, 1) := by decide +kernel
theorem dX5_goesOn_13 : decode cX5_goesOn 13 = .ok (.invokevirtual 130, 3) := by decide +kernel
theorem dX5_goesOn_16 : decode cX5_goesOn 16 = .ok (.if_icmp .le 11, 3) := by decide +kernel
theorem dX5_goesOn_19 : decode cX5_goesOn 19 = .ok (.aload_n 0, 1) := by decide +kernel
theorem dX5_goesOn_20 : decode cX5_goesOn 20 = .ok (.iload_n 1, 1) := by decide +kernel
theorem dX5_goesOn_21 : decode cX5_goesOn 21 = .ok (.invokevirtual 151, 3) := by decide +kernel
theorem dX5_goesOn_24 : decode cX5_goesOn 24 = .ok (.goto 5, 3) := by decide +kernel
theorem dX5_goesOn_27 : decode cX5_goesOn 27 = .ok (.bipush (-9), 2) := by decide +kernel
theorem dX5_goesOn_29 : decode cX5_goesOn 29 = .ok (.istore_n 2, 1) := by decide +kernel
theorem dX5_goesOn_30 : decode cX5_goesOn 30 = .ok (.iload_n 2, 1) := by decide +kernel
theorem dX5_goesOn_31 : decode cX5_goesOn 31 = .ok (.bipush (-9), 2) := by decide +kernel
theorem dX5_goesOn_33 : decode cX5_goesOn 33 = .ok (.if_icmp .eq 17, 3) := by decide +kernel
theorem dX5_goesOn_36 : decode cX5_goesOn 36 = .ok (.aload_n 0, 1) := by decide +kernel
theorem dX5_goesOn_37 : decode cX5_goesOn 37 = .ok (.getfield 34, 3) := by decide +kernel
theorem dX5_goesOn_40 : decode cX5_goesOn 40 = .ok (.iconst 4, 1) := by decide +kernel
theorem dX5_goesOn_41 : decode cX5_goesOn 41 = .ok (.iload_n 1, 1) := by decide +kernel
theorem dX5_goesOn_42 : decode cX5_goesOn 42 = .ok (.imul, 1) := by decide +kernel
theorem dX5_goesOn_43 : decode cX5_goesOn 43 = .ok (.iload_n 2, 1) := by decide +kernel
theorem dX5_goesOn_44 : decode cX5_goesOn 44 = .ok (.iadd, 1) := by decide +kernel
theorem dX5_goesOn_45 : decode cX5_goesOn 45 = .ok (.dup2, 1) := by decide +kernel
theorem dX5_goesOn_46 : decode cX5_goesOn 46 = .ok (.iaload, 1) := by decide +kernel
theorem dX5_goesOn_47 : decode cX5_goesOn 47 = .ok (.iconst 1, 1) := by decide +kernel
theorem dX5_goesOn_48 : decode cX5_goesOn 48 = .ok (.isub, 1) := by decide +kernel
theorem dX5_goesOn_49 : decode cX5_goesOn 49 = .ok (.iastore, 1) := by decide +kernel
theorem dX5_goesOn_50 : decode cX5_goesOn 50 = .ok (.aload_n 0, 1) := by decide +kernel
theorem dX5_goesOn_51 : decode cX5_goesOn 51 = .ok (.getfield 31, 3) := by decide +kernel
theorem dX5_goesOn_54 : decode cX5_goesOn 54 = .ok (.iload_n 1, 1) := by decide +kernel
theorem dX5_goesOn_55 : decode cX5_goesOn 55 = .ok (.aload_n 0, 1) := by decide +kernel
theorem dX5_goesOn_56 : decode cX5_goesOn 56 = .ok (.getfield 31, 3) := by decide +kernel
theorem dX5_goesOn_59 : decode cX5_goesOn 59 = .ok (.iload_n 1, 1) := by decide +kernel
theorem dX5_goesOn_60 : decode cX5_goesOn 60 = .ok (.iaload, 1) := by decide +kernel
theorem dX5_goesOn_61 : decode cX5_goesOn 61 = .ok (.iconst 1, 1) := by decide +kernel
theorem dX5_goesOn_62 : decode cX5_goesOn 62 = .ok (.iadd, 1) := by decide +kernel
theorem dX5_goesOn_63 : decode cX5_goesOn 63 = .ok (.aload_n 0, 1) := by decide +kernel
theorem dX5_goesOn_64 : decode cX5_goesOn 64 = .ok (.getfield 74, 3) := by decide +kernel
theorem dX5_goesOn_67 : decode cX5_goesOn 67 = .ok (.if_icmp .ne 7, 3) := by decide +kernel
theorem dX5_goesOn_70 : decode cX5_goesOn 70 = .ok (.iconst 0, 1) := by decide +kernel
theorem dX5_goesOn_71 : decode cX5_goesOn 71 = .ok (.goto 11, 3) := by decide +kernel
theorem dX5_goesOn_74 : decode cX5_goesOn 74 = .ok (.aload_n 0, 1) := by decide +kernel
theorem dX5_goesOn_75 : decode cX5_goesOn 75 = .ok (.getfield 31, 3) := by decide +kernel
theorem dX5_goesOn_78 : decode cX5_goesOn 78 = .ok (.iload_n 1, 1) := by decide +kernel
theorem dX5_goesOn_79 : decode cX5_goesOn 79 = .ok (.iaload, 1) := by decide +kernel
theorem dX5_goesOn_80 : decode cX5_goesOn 80 = .ok (.iconst 1, 1) := by decide +kernel
theorem dX5_goesOn_81 : decode cX5_goesOn 81 = .ok (.iadd, 1) := by decide +kernel
theorem dX5_goesOn_82 : decode cX5_goesOn 82 = .ok (.iastore, 1) := by decide +kernel
theorem dX5_goesOn_83 : decode cX5_goesOn 83 = .ok (.iload_n 2, 1) := by decide +kernel
theorem dX5_goesOn_84 : decode cX5_goesOn 84 = .ok (.ireturn, 1) := by decide +kernel
theorem dX5_days_0 : decode cX5_days 0 = .ok (.iload_n 1, 1) := by decide +kernel
theorem dX5_days_1 : decode cX5_days 1 = .ok (.iconst 1, 1) := by decide +kernel
theorem dX5_days_2 : decode cX5_days 2 = .ok (.bipush 30, 2) := by decide +kernel
theorem dX5_days_4 : decode cX5_days 4 = .ok (.invokestatic 67, 3) := by decide +kernel
theorem dX5_days_7 : decode cX5_days 7 = .ok (.ifCond .ne 6, 3) := by decide +kernel
theorem dX5_days_10 : decode cX5_days 10 = .ok (.bipush (-2), 2) := by decide +kernel
theorem dX5_days_12 : decode cX5_days 12 = .ok (.ireturn, 1) := by decide +kernel
theorem dX5_days_13 : decode cX5_days 13 = .ok (.aload_n 0, 1) := by decide +kernel
theorem dX5_days_14 : decode cX5_days 14 = .ok (.getfield 71, 3) := by decide +kernel
theorem dX5_days_17 : decode cX5_days 17 = .ok (.ifCond .ne 6, 3) := by decide +kernel
theorem dX5_days_20 : decode cX5_days 20 = .ok (.bipush (-3), 2) := by decide +kernel
theorem dX5_days_22 : decode cX5_days 22 = .ok (.ireturn, 1) := by decide +kernel
theorem dX5_days_23 : decode cX5_days 23 = .ok (.iconst 0, 1) := by decide +kernel
theorem dX5_days_24 : decode cX5_days 24 = .ok (.istore_n 2, 1) := by decide +kernel
theorem dX5_days_25 : decode cX5_days 25 = .ok (.iconst 0, 1) := by decide +kernel
theorem dX5_days_26 : decode cX5_days 26 = .ok (.istore_n 3, 1) := by decide +kernel
theorem dX5_days_27 : decode cX5_days 27 = .ok (.iload_n 3, 1) := by decide +kernel
theorem dX5_days_28 : decode cX5_days 28 = .ok (.iload_n 1, 1) := by decide +kernel
theorem dX5_days_29 : decode cX5_days 29 = .ok (.if_icmp .ge 46, 3) := by decide +kernel
theorem dX5_days_32 : decode cX5_days 32 = .ok (.iconst 0, 1) := by decide +kernel
theorem dX5_days_33 : decode cX5_days 33 = .ok (.istore 4, 2) := by decide +kernel
theorem dX5_days_35 : decode cX5_days 35 = .ok (.iload 4, 2) := by decide +kernel
theorem dX5_days_37 : decode cX5_days 37 = .ok (.aload_n 0, 1) := by decide +kernel
theorem dX5_days_38 : decode cX5_days 38 = .ok (.getfield 71, 3) := by decide +kernel
theorem dX5_days_41 : decode cX5_days 41 = .ok (.if_icmp .ge 28, 3) := by decide +kernel
theorem dX5_days_44 : decode cX5_days 44 = .ok (.iload_n 2, 1) := by decide +kernel
theorem dX5_days_45 : decode cX5_days 45 = .ok (.aload_n 0, 1) := by decide +kernel
theorem dX5_days_46 : decode cX5_days 46 = .ok (.iload 4, 2) := by decide +kernel
theorem dX5_days_48 : decode cX5_days 48 = .ok (.invokevirtual 154, 3) := by decide +kernel
theorem dX5_days_51 : decode cX5_days 51 = .ok (.bipush (-9), 2) := by decide +kernel
theorem dX5_days_53 : decode cX5_days 53 = .ok (.if_icmp .ne 7, 3) := by decide +kernel
theorem dX5_days_56 : decode cX5_days 56 = .ok (.iconst 0, 1) := by decide +kernel
theorem dX5_days_57 : decode cX5_days 57 = .ok (.goto 4, 3) := by decide +kernel
theorem dX5_days_60 : decode cX5_days 60 = .ok (.iconst 1, 1) := by decide +kernel
theorem dX5_days_61 : decode cX5_days 61 = .ok (.iadd, 1) := by decide +kernel
theorem dX5_days_62 : decode cX5_days 62 = .ok (.istore_n 2, 1) := by decide +kernel
theorem dX5_days_63 : decode cX5_days 63 = .ok (.iinc 4 1, 3) := by decide +kernel
theorem dX5_days_66 : decode cX5_days 66 = .ok (.goto (-31), 3) := by decide +kernel
theorem dX5_days_69 : decode cX5_days 69 = .ok (.iinc 3 1, 3) := by decide +kernel
theorem dX5_days_72 : decode cX5_days 72 = .ok (.goto (-45), 3) := by decide +kernel
theorem dX5_days_75 : decode cX5_days 75 = .ok (.aload_n 0, 1) := by decide +kernel
theorem dX5_days_76 : decode cX5_days 76 = .ok (.dup, 1) := by decide +kernel
theorem dX5_days_77 : decode cX5_days 77 = .ok (.getfield 107, 3) := by decide +kernel
theorem dX5_days_80 : decode cX5_days 80 = .ok (.iload_n 1, 1) := by decide +kernel
theorem dX5_days_81 : decode cX5_days 81 = .ok (.iadd, 1) := by decide +kernel
theorem dX5_days_82 : decode cX5_days 82 = .ok (.putfield 107, 3) := by decide +kernel
theorem dX5_days_85 : decode cX5_days 85 = .ok (.iload_n 2, 1) := by decide +kernel
theorem dX5_days_86 : decode cX5_days 86 = .ok (.ireturn, 1) := by decide +kernel
end
section
theorem dX5_load_0 : decode cX5_load 0 = .ok (.aload_n 0, 1) := by decide +kernel
theorem dX5_load_1 : decode cX5_load 1 = .ok (.iload_n 1, 1) := by decide +kernel
theorem dX5_load_2 : decode cX5_load 2 = .ok (.invokevirtual 127, 3) := by decide +kernel
theorem dX5_load_5 : decode cX5_load 5 = .ok (.ifCond .ne 5, 3) := by decide +kernel
theorem dX5_load_8 : decode cX5_load 8 = .ok (.iconst (-1), 1) := by decide +kernel
theorem dX5_load_9 : decode cX5_load 9 = .ok (.ireturn, 1) := by decide +kernel
theorem dX5_load_10 : decode cX5_load 10 = .ok (.iload_n 2, 1) := by decide +kernel
theorem dX5_load_11 : decode cX5_load 11 = .ok (.invokestatic 148, 3) := by decide +kernel
theorem dX5_load_14 : decode cX5_load 14 = .ok (.ifCond .eq 13, 3) := by decide +kernel
theorem dX5_load_17 : decode cX5_load 17 = .ok (.iload_n 3, 1) := by decide +kernel
theorem dX5_load_18 : decode cX5_load 18 = .ok (.iconst 1, 1) := by decide +kernel
theorem dX5_load_19 : decode cX5_load 19 = .ok (.bipush 9, 2) := by decide +kernel
theorem dX5_load_21 : decode cX5_load 21 = .ok (.invokestatic 67, 3) := by decide +kernel
theorem dX5_load_24 : decode cX5_load 24 = .ok (.ifCond .ne 6, 3) := by decide +kernel
theorem dX5_load_27 : decode cX5_load 27 = .ok (.bipush (-2), 2) := by decide +kernel
theorem dX5_load_29 : decode cX5_load 29 = .ok (.ireturn, 1) := by decide +kernel
theorem dX5_load_30 : decode cX5_load 30 = .ok (.aload_n 0, 1) := by decide +kernel
theorem dX5_load_31 : decode cX5_load 31 = .ok (.getfield 34, 3) := by decide +kernel
theorem dX5_load_34 : decode cX5_load 34 = .ok (.iconst 4, 1) := by decide +kernel
theorem dX5_load_35 : decode cX5_load 35 = .ok (.iload_n 1, 1) := by decide +kernel
theorem dX5_load_36 : decode cX5_load 36 = .ok (.imul, 1) := by decide +kernel
theorem dX5_load_37 : decode cX5_load 37 = .ok (.iload_n 2, 1) := by decide +kernel
theorem dX5_load_38 : decode cX5_load 38 = .ok (.iadd, 1) := by decide +kernel
theorem dX5_load_39 : decode cX5_load 39 = .ok (.iaload, 1) := by decide +kernel
theorem dX5_load_40 : decode cX5_load 40 = .ok (.iload_n 3, 1) := by decide +kernel
theorem dX5_load_41 : decode cX5_load 41 = .ok (.iadd, 1) := by decide +kernel
theorem dX5_load_42 : decode cX5_load 42 = .ok (.bipush 9, 2) := by decide +kernel
theorem dX5_load_44 : decode cX5_load 44 = .ok (.if_icmp .le 6, 3) := by decide +kernel
theorem dX5_load_47 : decode cX5_load 47 = .ok (.bipush (-4), 2) := by decide +kernel
theorem dX5_load_49 : decode cX5_load 49 = .ok (.ireturn, 1) := by decide +kernel
theorem dX5_load_50 : decode cX5_load 50 = .ok (.aload_n 0, 1) := by decide +kernel
theorem dX5_load_51 : decode cX5_load 51 = .ok (.getfield 34, 3) := by decide +kernel
theorem dX5_load_54 : decode cX5_load 54 = .ok (.iconst 4, 1) := by decide +kernel
theorem dX5_load_55 : decode cX5_load 55 = .ok (.iload_n 1, 1) := by decide +kernel
theorem dX5_load_56 : decode cX5_load 56 = .ok (.imul, 1) := by decide +kernel
theorem dX5_load_57 : decode cX5_load 57 = .ok (.iload_n 2, 1) := by decide +kernel
theorem dX5_load_58 : decode cX5_load 58 = .ok (.iadd, 1) := by decide +kernel
theorem dX5_load_59 : decode cX5_load 59 = .ok (.dup2, 1) := by decide +kernel
theorem dX5_load_60 : decode cX5_load 60 = .ok (.iaload, 1) := by decide +kernel
theorem dX5_load_61 : decode cX5_load 61 = .ok (.iload_n 3, 1) := by decide +kernel
theorem dX5_load_62 : decode cX5_load 62 = .ok (.iadd, 1) := by decide +kernel
theorem dX5_load_63 : decode cX5_load 63 = .ok (.iastore, 1) := by decide +kernel
theorem dX5_load_64 : decode cX5_load 64 = .ok (.aload_n 0, 1) := by decide +kernel
theorem dX5_load_65 : decode cX5_load 65 = .ok (.getfield 34, 3) := by decide +kernel
theorem dX5_load_68 : decode cX5_load 68 = .ok (.iconst 4, 1) := by decide +kernel
theorem dX5_load_69 : decode cX5_load 69 = .ok (.iload_n 1, 1) := by decide +kernel
theorem dX5_load_70 : decode cX5_load 70 = .ok (.imul, 1) := by decide +kernel
theorem dX5_load_71 : decode cX5_load 71 = .ok (.iload_n 2, 1) := by decide +kernel
theorem dX5_load_72 : decode cX5_load 72 = .ok (.iadd, 1) := by decide +kernel
theorem dX5_load_73 : decode cX5_load 73 = .ok (.iaload, 1) := by decide +kernel
theorem dX5_load_74 : decode cX5_load 74 = .ok (.ireturn, 1) := by decide +kernel
theorem dX5_off_0 : decode cX5_off 0 = .ok (.aload_n 0, 1) := by decide +kernel
theorem dX5_off_1 : decode cX5_off 1 = .ok (.iload_n 1, 1) := by decide +kernel
theorem dX5_off_2 : decode cX5_off 2 = .ok (.invokevirtual 127, 3) := by decide +kernel
theorem dX5_off_5 : decode cX5_off 5 = .ok (.ifCond .ne 5, 3) := by decide +kernel
theorem dX5_off_8 : decode cX5_off 8 = .ok (.iconst (-1), 1) := by decide +kernel
theorem dX5_off_9 : decode cX5_off 9 = .ok (.ireturn, 1) := by decide +kernel
theorem dX5_off_10 : decode cX5_off 10 = .ok (.iload_n 2, 1) := by decide +kernel
theorem dX5_off_11 : decode cX5_off 11 = .ok (.invokestatic 148, 3) := by decide +kernel
theorem dX5_off_14 : decode cX5_off 14 = .ok (.ifCond .eq 13, 3) := by decide +kernel
theorem dX5_off_17 : decode cX5_off 17 = .ok (.iload_n 3, 1) := by decide +kernel
theorem dX5_off_18 : decode cX5_off 18 = .ok (.iconst 1, 1) := by decide +kernel
theorem dX5_off_19 : decode cX5_off 19 = .ok (.bipush 9, 2) := by decide +kernel
theorem dX5_off_21 : decode cX5_off 21 = .ok (.invokestatic 67, 3) := by decide +kernel
theorem dX5_off_24 : decode cX5_off 24 = .ok (.ifCond .ne 6, 3) := by decide +kernel
theorem dX5_off_27 : decode cX5_off 27 = .ok (.bipush (-2), 2) := by decide +kernel
theorem dX5_off_29 : decode cX5_off 29 = .ok (.ireturn, 1) := by decide +kernel
theorem dX5_off_30 : decode cX5_off 30 = .ok (.aload_n 0, 1) := by decide +kernel
theorem dX5_off_31 : decode cX5_off 31 = .ok (.getfield 34, 3) := by decide +kernel
theorem dX5_off_34 : decode cX5_off 34 = .ok (.iconst 4, 1) := by decide +kernel
theorem dX5_off_35 : decode cX5_off 35 = .ok (.iload_n 1, 1) := by decide +kernel
theorem dX5_off_36 : decode cX5_off 36 = .ok (.imul, 1) := by decide +kernel
theorem dX5_off_37 : decode cX5_off 37 = .ok (.iload_n 2, 1) := by decide +kernel
theorem dX5_off_38 : decode cX5_off 38 = .ok (.iadd, 1) := by decide +kernel
theorem dX5_off_39 : decode cX5_off 39 = .ok (.iaload, 1) := by decide +kernel
theorem dX5_off_40 : decode cX5_off 40 = .ok (.iload_n 3, 1) := by decide +kernel
theorem dX5_off_41 : decode cX5_off 41 = .ok (.if_icmp .ge 6, 3) := by decide +kernel
theorem dX5_off_44 : decode cX5_off 44 = .ok (.bipush (-3), 2) := by decide +kernel
theorem dX5_off_46 : decode cX5_off 46 = .ok (.ireturn, 1) := by decide +kernel
theorem dX5_off_47 : decode cX5_off 47 = .ok (.aload_n 0, 1) := by decide +kernel
theorem dX5_off_48 : decode cX5_off 48 = .ok (.getfield 34, 3) := by decide +kernel
theorem dX5_off_51 : decode cX5_off 51 = .ok (.iconst 4, 1) := by decide +kernel
theorem dX5_off_52 : decode cX5_off 52 = .ok (.iload_n 1, 1) := by decide +kernel
theorem dX5_off_53 : decode cX5_off 53 = .ok (.imul, 1) := by decide +kernel
theorem dX5_off_54 : decode cX5_off 54 = .ok (.iload_n 2, 1) := by decide +kernel
theorem dX5_off_55 : decode cX5_off 55 = .ok (.iadd, 1) := by decide +kernel
theorem dX5_off_56 : decode cX5_off 56 = .ok (.dup2, 1) := by decide +kernel
theorem dX5_off_57 : decode cX5_off 57 = .ok (.iaload, 1) := by decide +kernel
theorem dX5_off_58 : decode cX5_off 58 = .ok (.iload_n 3, 1) := by decide +kernel
theorem dX5_off_59 : decode cX5_off 59 = .ok (.isub, 1) := by decide +kernel
theorem dX5_off_60 : decode cX5_off 60 = .ok (.iastore, 1) := by decide +kernel
theorem dX5_off_61 : decode cX5_off 61 = .ok (.aload_n 0, 1) := by decide +kernel
theorem dX5_off_62 : decode cX5_off 62 = .ok (.getfield 34, 3) := by decide +kernel
theorem dX5_off_65 : decode cX5_off 65 = .ok (.iconst 4, 1) := by decide +kernel
theorem dX5_off_66 : decode cX5_off 66 = .ok (.iload_n 1, 1) := by decide +kernel
theorem dX5_off_67 : decode cX5_off 67 = .ok (.imul, 1) := by decide +kernel
theorem dX5_off_68 : decode cX5_off 68 = .ok (.iload_n 2, 1) := by decide +kernel
theorem dX5_off_69 : decode cX5_off 69 = .ok (.iadd, 1) := by decide +kernel
theorem dX5_off_70 : decode cX5_off 70 = .ok (.iaload, 1) := by decide +kernel
theorem dX5_off_71 : decode cX5_off 71 = .ok (.ireturn, 1) := by decide +kernel
theorem dX5_keep_0 : decode cX5_keep 0 = .ok (.iconst 0, 1) := by decide +kernel
theorem dX5_keep_1 : decode cX5_keep 1 = .ok (.istore_n 1, 1) := by decide +kernel
theorem dX5_keep_2 : decode cX5_keep 2 = .ok (.iload_n 1, 1) := by decide +kernel
theorem dX5_keep_3 : decode cX5_keep 3 = .ok (.aload_n 0, 1) := by decide +kernel
theorem dX5_keep_4 : decode cX5_keep 4 = .ok (.getfield 71, 3) := by decide +kernel
theorem dX5_keep_7 : decode cX5_keep 7 = .ok (.if_icmp .ge 21, 3) := by decide +kernel
theorem dX5_keep_10 : decode cX5_keep 10 = .ok (.aload_n 0, 1) := by decide +kernel
theorem dX5_keep_11 : decode cX5_keep 11 = .ok (.getfield 43, 3) := by decide +kernel
theorem dX5_keep_14 : decode cX5_keep 14 = .ok (.iload_n 1, 1) := by decide +kernel
theorem dX5_keep_15 : decode cX5_keep 15 = .ok (.aload_n 0, 1) := by decide +kernel
theorem dX5_keep_16 : decode cX5_keep 16 = .ok (.getfield 31, 3) := by decide +kernel
theorem dX5_keep_19 : decode cX5_keep 19 = .ok (.iload_n 1, 1) := by decide +kernel
theorem dX5_keep_20 : decode cX5_keep 20 = .ok (.iaload, 1) := by decide +kernel
theorem dX5_keep_21 : decode cX5_keep 21 = .ok (.iastore, 1) := by decide +kernel
theorem dX5_keep_22 : decode cX5_keep 22 = .ok (.iinc 1 1, 3) := by decide +kernel
theorem dX5_keep_25 : decode cX5_keep 25 = .ok (.goto (-23), 3) := by decide +kernel
theorem dX5_keep_28 : decode cX5_keep 28 = .ok (.iconst 0, 1) := by decide +kernel
theorem dX5_keep_29 : decode cX5_keep 29 = .ok (.istore_n 1, 1) := by decide +kernel
theorem dX5_keep_30 : decode cX5_keep 30 = .ok (.iload_n 1, 1) := by decide +kernel
theorem dX5_keep_31 : decode cX5_keep 31 = .ok (.iconst 4, 1) := by decide +kernel
theorem dX5_keep_32 : decode cX5_keep 32 = .ok (.aload_n 0, 1) := by decide +kernel
theorem dX5_keep_33 : decode cX5_keep 33 = .ok (.getfield 71, 3) := by decide +kernel
theorem dX5_keep_36 : decode cX5_keep 36 = .ok (.imul, 1) := by decide +kernel
theorem dX5_keep_37 : decode cX5_keep 37 = .ok (.if_icmp .ge 21, 3) := by decide +kernel
theorem dX5_keep_40 : decode cX5_keep 40 = .ok (.aload_n 0, 1) := by decide +kernel
theorem dX5_keep_41 : decode cX5_keep 41 = .ok (.getfield 46, 3) := by decide +kernel
theorem dX5_keep_44 : decode cX5_keep 44 = .ok (.iload_n 1, 1) := by decide +kernel
theorem dX5_keep_45 : decode cX5_keep 45 = .ok (.aload_n 0, 1) := by decide +kernel
theorem dX5_keep_46 : decode cX5_keep 46 = .ok (.getfield 34, 3) := by decide +kernel
theorem dX5_keep_49 : decode cX5_keep 49 = .ok (.iload_n 1, 1) := by decide +kernel
theorem dX5_keep_50 : decode cX5_keep 50 = .ok (.iaload, 1) := by decide +kernel
theorem dX5_keep_51 : decode cX5_keep 51 = .ok (.iastore, 1) := by decide +kernel
theorem dX5_keep_52 : decode cX5_keep 52 = .ok (.iinc 1 1, 3) := by decide +kernel
theorem dX5_keep_55 : decode cX5_keep 55 = .ok (.goto (-25), 3) := by decide +kernel
theorem dX5_keep_58 : decode cX5_keep 58 = .ok (.return_, 1) := by decide +kernel
theorem dX5_putBack_0 : decode cX5_putBack 0 = .ok (.iconst 0, 1) := by decide +kernel
theorem dX5_putBack_1 : decode cX5_putBack 1 = .ok (.istore_n 1, 1) := by decide +kernel
theorem dX5_putBack_2 : decode cX5_putBack 2 = .ok (.iload_n 1, 1) := by decide +kernel
theorem dX5_putBack_3 : decode cX5_putBack 3 = .ok (.aload_n 0, 1) := by decide +kernel
theorem dX5_putBack_4 : decode cX5_putBack 4 = .ok (.getfield 71, 3) := by decide +kernel
theorem dX5_putBack_7 : decode cX5_putBack 7 = .ok (.if_icmp .ge 21, 3) := by decide +kernel
theorem dX5_putBack_10 : decode cX5_putBack 10 = .ok (.aload_n 0, 1) := by decide +kernel
theorem dX5_putBack_11 : decode cX5_putBack 11 = .ok (.getfield 31, 3) := by decide +kernel
theorem dX5_putBack_14 : decode cX5_putBack 14 = .ok (.iload_n 1, 1) := by decide +kernel
theorem dX5_putBack_15 : decode cX5_putBack 15 = .ok (.aload_n 0, 1) := by decide +kernel
theorem dX5_putBack_16 : decode cX5_putBack 16 = .ok (.getfield 43, 3) := by decide +kernel
theorem dX5_putBack_19 : decode cX5_putBack 19 = .ok (.iload_n 1, 1) := by decide +kernel
theorem dX5_putBack_20 : decode cX5_putBack 20 = .ok (.iaload, 1) := by decide +kernel
theorem dX5_putBack_21 : decode cX5_putBack 21 = .ok (.iastore, 1) := by decide +kernel
theorem dX5_putBack_22 : decode cX5_putBack 22 = .ok (.iinc 1 1, 3) := by decide +kernel
theorem dX5_putBack_25 : decode cX5_putBack 25 = .ok (.goto (-23), 3) := by decide +kernel
theorem dX5_putBack_28 : decode cX5_putBack 28 = .ok (.iconst 0, 1) := by decide +kernel
theorem dX5_putBack_29 : decode cX5_putBack 29 = .ok (.istore_n 1, 1) := by decide +kernel
theorem dX5_putBack_30 : decode cX5_putBack 30 = .ok (.iload_n 1, 1) := by decide +kernel
theorem dX5_putBack_31 : decode cX5_putBack 31 = .ok (.iconst 4, 1) := by decide +kernel
theorem dX5_putBack_32 : decode cX5_putBack 32 = .ok (.aload_n 0, 1) := by decide +kernel
theorem dX5_putBack_33 : decode cX5_putBack 33 = .ok (.getfield 71, 3) := by decide +kernel
theorem dX5_putBack_36 : decode cX5_putBack 36 = .ok (.imul, 1) := by decide +kernel
theorem dX5_putBack_37 : decode cX5_putBack 37 = .ok (.if_icmp .ge 21, 3) := by decide +kernel
theorem dX5_putBack_40 : decode cX5_putBack 40 = .ok (.aload_n 0, 1) := by decide +kernel
theorem dX5_putBack_41 : decode cX5_putBack 41 = .ok (.getfield 34, 3) := by decide +kernel
theorem dX5_putBack_44 : decode cX5_putBack 44 = .ok (.iload_n 1, 1) := by decide +kernel
theorem dX5_putBack_45 : decode cX5_putBack 45 = .ok (.aload_n 0, 1) := by decide +kernel
theorem dX5_putBack_46 : decode cX5_putBack 46 = .ok (.getfield 46, 3) := by decide +kernel
theorem dX5_putBack_49 : decode cX5_putBack 49 = .ok (.iload_n 1, 1) := by decide +kernel
theorem dX5_putBack_50 : decode cX5_putBack 50 = .ok (.iaload, 1) := by decide +kernel
theorem dX5_putBack_51 : decode cX5_putBack 51 = .ok (.iastore, 1) := by decide +kernel
theorem dX5_putBack_52 : decode cX5_putBack 52 = .ok (.iinc 1 1, 3) := by decide +kernel
theorem dX5_putBack_55 : decode cX5_putBack 55 = .ok (.goto (-25), 3) := by decide +kernel
theorem dX5_putBack_58 : decode cX5_putBack 58 = .ok (.return_, 1) := by decide +kernel
theorem dX5_noteLoss_0 : decode cX5_noteLoss 0 = .ok (.iload_n 2, 1) := by decide +kernel
theorem dX5_noteLoss_1 : decode cX5_noteLoss 1 = .ok (.bipush (-9), 2) := by decide +kernel
theorem dX5_noteLoss_3 : decode cX5_noteLoss 3 = .ok (.if_icmp .ne 4, 3) := by decide +kernel
theorem dX5_noteLoss_6 : decode cX5_noteLoss 6 = .ok (.return_, 1) := by decide +kernel
theorem dX5_noteLoss_7 : decode cX5_noteLoss 7 = .ok (.aload_n 0, 1) := by decide +kernel
theorem dX5_noteLoss_8 : decode cX5_noteLoss 8 = .ok (.dup, 1) := by decide +kernel
theorem dX5_noteLoss_9 : decode cX5_noteLoss 9 = .ok (.getfield 157, 3) := by decide +kernel
theorem dX5_noteLoss_12 : decode cX5_noteLoss 12 = .ok (.iconst 1, 1) := by decide +kernel
theorem dX5_noteLoss_13 : decode cX5_noteLoss 13 = .ok (.iadd, 1) := by decide +kernel
theorem dX5_noteLoss_14 : decode cX5_noteLoss 14 = .ok (.putfield 157, 3) := by decide +kernel
theorem dX5_noteLoss_17 : decode cX5_noteLoss 17 = .ok (.aload_n 0, 1) := by decide +kernel
theorem dX5_noteLoss_18 : decode cX5_noteLoss 18 = .ok (.dup, 1) := by decide +kernel
theorem dX5_noteLoss_19 : decode cX5_noteLoss 19 = .ok (.getfield 160, 3) := by decide +kernel
theorem dX5_noteLoss_22 : decode cX5_noteLoss 22 = .ok (.iload_n 2, 1) := by decide +kernel
theorem dX5_noteLoss_23 : decode cX5_noteLoss 23 = .ok (.iconst 1, 1) := by decide +kernel
theorem dX5_noteLoss_24 : decode cX5_noteLoss 24 = .ok (.iadd, 1) := by decide +kernel
theorem dX5_noteLoss_25 : decode cX5_noteLoss 25 = .ok (.iadd, 1) := by decide +kernel
theorem dX5_noteLoss_26 : decode cX5_noteLoss 26 = .ok (.putfield 160, 3) := by decide +kernel
theorem dX5_noteLoss_29 : decode cX5_noteLoss 29 = .ok (.aload_n 0, 1) := by decide +kernel
theorem dX5_noteLoss_30 : decode cX5_noteLoss 30 = .ok (.aload_n 0, 1) := by decide +kernel
theorem dX5_noteLoss_31 : decode cX5_noteLoss 31 = .ok (.getfield 163, 3) := by decide +kernel
theorem dX5_noteLoss_34 : decode cX5_noteLoss 34 = .ok (.bipush (-9), 2) := by decide +kernel
theorem dX5_noteLoss_36 : decode cX5_noteLoss 36 = .ok (.if_icmp .ne 17, 3) := by decide +kernel
theorem dX5_noteLoss_39 : decode cX5_noteLoss 39 = .ok (.iload_n 2, 1) := by decide +kernel
theorem dX5_noteLoss_40 : decode cX5_noteLoss 40 = .ok (.aload_n 0, 1) := by decide +kernel
theorem dX5_noteLoss_41 : decode cX5_noteLoss 41 = .ok (.getfield 25, 3) := by decide +kernel
theorem dX5_noteLoss_44 : decode cX5_noteLoss 44 = .ok (.iload_n 1, 1) := by decide +kernel
theorem dX5_noteLoss_45 : decode cX5_noteLoss 45 = .ok (.iaload, 1) := by decide +kernel
theorem dX5_noteLoss_46 : decode cX5_noteLoss 46 = .ok (.if_icmp .ne 7, 3) := by decide +kernel
theorem dX5_noteLoss_49 : decode cX5_noteLoss 49 = .ok (.iload_n 1, 1) := by decide +kernel
theorem dX5_noteLoss_50 : decode cX5_noteLoss 50 = .ok (.goto 7, 3) := by decide +kernel
theorem dX5_noteLoss_53 : decode cX5_noteLoss 53 = .ok (.aload_n 0, 1) := by decide +kernel
theorem dX5_noteLoss_54 : decode cX5_noteLoss 54 = .ok (.getfield 163, 3) := by decide +kernel
theorem dX5_noteLoss_57 : decode cX5_noteLoss 57 = .ok (.putfield 163, 3) := by decide +kernel
theorem dX5_noteLoss_60 : decode cX5_noteLoss 60 = .ok (.return_, 1) := by decide +kernel
theorem dX5_does_0 : decode cX5_does 0 = .ok (.iload_n 2, 1) := by decide +kernel
theorem dX5_does_1 : decode cX5_does 1 = .ok (.bipush 8, 2) := by decide +kernel
theorem dX5_does_3 : decode cX5_does 3 = .ok (.if_icmp .ne 48, 3) := by decide +kernel
theorem dX5_does_6 : decode cX5_does 6 = .ok (.iconst 0, 1) := by decide +kernel
theorem dX5_does_7 : decode cX5_does 7 = .ok (.istore_n 3, 1) := by decide +kernel
theorem dX5_does_8 : decode cX5_does 8 = .ok (.iload_n 3, 1) := by decide +kernel
theorem dX5_does_9 : decode cX5_does 9 = .ok (.iload_n 1, 1) := by decide +kernel
theorem dX5_does_10 : decode cX5_does 10 = .ok (.if_icmp .ge 39, 3) := by decide +kernel
theorem dX5_does_13 : decode cX5_does 13 = .ok (.iconst 0, 1) := by decide +kernel
theorem dX5_does_14 : decode cX5_does 14 = .ok (.istore 4, 2) := by decide +kernel
theorem dX5_does_16 : decode cX5_does 16 = .ok (.iload 4, 2) := by decide +kernel
theorem dX5_does_18 : decode cX5_does 18 = .ok (.aload_n 0, 1) := by decide +kernel
theorem dX5_does_19 : decode cX5_does 19 = .ok (.getfield 71, 3) := by decide +kernel
theorem dX5_does_22 : decode cX5_does 22 = .ok (.if_icmp .ge 21, 3) := by decide +kernel
theorem dX5_does_25 : decode cX5_does 25 = .ok (.aload_n 0, 1) := by decide +kernel
theorem dX5_does_26 : decode cX5_does 26 = .ok (.iload 4, 2) := by decide +kernel
theorem dX5_does_28 : decode cX5_does 28 = .ok (.aload_n 0, 1) := by decide +kernel
theorem dX5_does_29 : decode cX5_does 29 = .ok (.iload 4, 2) := by decide +kernel
theorem dX5_does_31 : decode cX5_does 31 = .ok (.invokevirtual 154, 3) := by decide +kernel
theorem dX5_does_34 : decode cX5_does 34 = .ok (.invokevirtual 166, 3) := by decide +kernel
theorem dX5_does_37 : decode cX5_does 37 = .ok (.iinc 4 1, 3) := by decide +kernel
theorem dX5_does_40 : decode cX5_does 40 = .ok (.goto (-24), 3) := by decide +kernel
theorem dX5_does_43 : decode cX5_does 43 = .ok (.iinc 3 1, 3) := by decide +kernel
theorem dX5_does_46 : decode cX5_does 46 = .ok (.goto (-38), 3) := by decide +kernel
theorem dX5_does_49 : decode cX5_does 49 = .ok (.iconst 1, 1) := by decide +kernel
theorem dX5_does_50 : decode cX5_does 50 = .ok (.ireturn, 1) := by decide +kernel
theorem dX5_does_51 : decode cX5_does 51 = .ok (.iload_n 2, 1) := by decide +kernel
theorem dX5_does_52 : decode cX5_does 52 = .ok (.iconst 4, 1) := by decide +kernel
theorem dX5_does_53 : decode cX5_does 53 = .ok (.if_icmp .ge 7, 3) := by decide +kernel
theorem dX5_does_56 : decode cX5_does 56 = .ok (.iconst 1, 1) := by decide +kernel
theorem dX5_does_57 : decode cX5_does 57 = .ok (.goto 4, 3) := by decide +kernel
theorem dX5_does_60 : decode cX5_does 60 = .ok (.iconst 0, 1) := by decide +kernel
theorem dX5_does_61 : decode cX5_does 61 = .ok (.istore_n 3, 1) := by decide +kernel
theorem dX5_does_62 : decode cX5_does 62 = .ok (.iconst 4, 1) := by decide +kernel
theorem dX5_does_63 : decode cX5_does 63 = .ok (.iload_n 1, 1) := by decide +kernel
theorem dX5_does_64 : decode cX5_does 64 = .ok (.imul, 1) := by decide +kernel
theorem dX5_does_65 : decode cX5_does 65 = .ok (.iload_n 3, 1) := by decide +kernel
theorem dX5_does_66 : decode cX5_does 66 = .ok (.ifCond .eq 7, 3) := by decide +kernel
theorem dX5_does_69 : decode cX5_does 69 = .ok (.iload_n 2, 1) := by decide +kernel
theorem dX5_does_70 : decode cX5_does 70 = .ok (.goto 6, 3) := by decide +kernel
theorem dX5_does_73 : decode cX5_does 73 = .ok (.iload_n 2, 1) := by decide +kernel
theorem dX5_does_74 : decode cX5_does 74 = .ok (.iconst 4, 1) := by decide +kernel
theorem dX5_does_75 : decode cX5_does 75 = .ok (.isub, 1) := by decide +kernel
theorem dX5_does_76 : decode cX5_does 76 = .ok (.iadd, 1) := by decide +kernel
theorem dX5_does_77 : decode cX5_does 77 = .ok (.istore 4, 2) := by decide +kernel
theorem dX5_does_79 : decode cX5_does 79 = .ok (.iload_n 3, 1) := by decide +kernel
theorem dX5_does_80 : decode cX5_does 80 = .ok (.ifCond .eq 15, 3) := by decide +kernel
theorem dX5_does_83 : decode cX5_does 83 = .ok (.aload_n 0, 1) := by decide +kernel
theorem dX5_does_84 : decode cX5_does 84 = .ok (.getfield 34, 3) := by decide +kernel
theorem dX5_does_87 : decode cX5_does 87 = .ok (.iload 4, 2) := by decide +kernel
theorem dX5_does_89 : decode cX5_does 89 = .ok (.iaload, 1) := by decide +kernel
theorem dX5_does_90 : decode cX5_does 90 = .ok (.bipush 9, 2) := by decide +kernel
theorem dX5_does_92 : decode cX5_does 92 = .ok (.if_icmp .eq 17, 3) := by decide +kernel
theorem dX5_does_95 : decode cX5_does 95 = .ok (.iload_n 3, 1) := by decide +kernel
theorem dX5_does_96 : decode cX5_does 96 = .ok (.ifCond .ne 15, 3) := by decide +kernel
theorem dX5_does_99 : decode cX5_does 99 = .ok (.aload_n 0, 1) := by decide +kernel
theorem dX5_does_100 : decode cX5_does 100 = .ok (.getfield 34, 3) := by decide +kernel
theorem dX5_does_103 : decode cX5_does 103 = .ok (.iload 4, 2) := by decide +kernel
theorem dX5_does_105 : decode cX5_does 105 = .ok (.iaload, 1) := by decide +kernel
theorem dX5_does_106 : decode cX5_does 106 = .ok (.ifCond .ne 5, 3) := by decide +kernel
theorem dX5_does_109 : decode cX5_does 109 = .ok (.iconst 0, 1) := by decide +kernel
theorem dX5_does_110 : decode cX5_does 110 = .ok (.ireturn, 1) := by decide +kernel
theorem dX5_does_111 : decode cX5_does 111 = .ok (.aload_n 0, 1) := by decide +kernel
theorem dX5_does_112 : decode cX5_does 112 = .ok (.getfield 34, 3) := by decide +kernel
theorem dX5_does_115 : decode cX5_does 115 = .ok (.iload 4, 2) := by decide +kernel
theorem dX5_does_117 : decode cX5_does 117 = .ok (.dup2, 1) := by decide +kernel
theorem dX5_does_118 : decode cX5_does 118 = .ok (.iaload, 1) := by decide +kernel
theorem dX5_does_119 : decode cX5_does 119 = .ok (.iload_n 3, 1) := by decide +kernel
theorem dX5_does_120 : decode cX5_does 120 = .ok (.ifCond .eq 7, 3) := by decide +kernel
theorem dX5_does_123 : decode cX5_does 123 = .ok (.iconst 1, 1) := by decide +kernel
theorem dX5_does_124 : decode cX5_does 124 = .ok (.goto 4, 3) := by decide +kernel
theorem dX5_does_127 : decode cX5_does 127 = .ok (.iconst (-1), 1) := by decide +kernel
theorem dX5_does_128 : decode cX5_does 128 = .ok (.iadd, 1) := by decide +kernel
theorem dX5_does_129 : decode cX5_does 129 = .ok (.iastore, 1) := by decide +kernel
theorem dX5_does_130 : decode cX5_does 130 = .ok (.iconst 1, 1) := by decide +kernel
theorem dX5_does_131 : decode cX5_does 131 = .ok (.ireturn, 1) := by decide +kernel
theorem dX5_goVoyage_0 : decode cX5_goVoyage 0 = .ok (.aload_n 0, 1) := by decide +kernel
theorem dX5_goVoyage_1 : decode cX5_goVoyage 1 = .ok (.iconst 0, 1) := by decide +kernel
theorem dX5_goVoyage_2 : decode cX5_goVoyage 2 = .ok (.putfield 157, 3) := by decide +kernel
theorem dX5_goVoyage_5 : decode cX5_goVoyage 5 = .ok (.aload_n 0, 1) := by decide +kernel
theorem dX5_goVoyage_6 : decode cX5_goVoyage 6 = .ok (.iconst 0, 1) := by decide +kernel
theorem dX5_goVoyage_7 : decode cX5_goVoyage 7 = .ok (.putfield 160, 3) := by decide +kernel
theorem dX5_goVoyage_10 : decode cX5_goVoyage 10 = .ok (.aload_n 0, 1) := by decide +kernel
theorem dX5_goVoyage_11 : decode cX5_goVoyage 11 = .ok (.bipush (-9), 2) := by decide +kernel
theorem dX5_goVoyage_13 : decode cX5_goVoyage 13 = .ok (.putfield 163, 3) := by decide +kernel
theorem dX5_goVoyage_16 : decode cX5_goVoyage 16 = .ok (.iconst 0, 1) := by decide +kernel
theorem dX5_goVoyage_17 : decode cX5_goVoyage 17 = .ok (.istore_n 3, 1) := by decide +kernel
theorem dX5_goVoyage_18 : decode cX5_goVoyage 18 = .ok (.iload_n 3, 1) := by decide +kernel
theorem dX5_goVoyage_19 : decode cX5_goVoyage 19 = .ok (.iload_n 2, 1) := by decide +kernel
theorem dX5_goVoyage_20 : decode cX5_goVoyage 20 = .ok (.if_icmp .ge 40, 3) := by decide +kernel
theorem dX5_goVoyage_23 : decode cX5_goVoyage 23 = .ok (.aload_n 0, 1) := by decide +kernel
theorem dX5_goVoyage_24 : decode cX5_goVoyage 24 = .ok (.aload_n 0, 1) := by decide +kernel
theorem dX5_goVoyage_25 : decode cX5_goVoyage 25 = .ok (.getfield 16, 3) := by decide +kernel
theorem dX5_goVoyage_28 : decode cX5_goVoyage 28 = .ok (.iload_n 1, 1) := by decide +kernel
theorem dX5_goVoyage_29 : decode cX5_goVoyage 29 = .ok (.iconst 2, 1) := by decide +kernel
theorem dX5_goVoyage_30 : decode cX5_goVoyage 30 = .ok (.iload_n 3, 1) := by decide +kernel
theorem dX5_goVoyage_31 : decode cX5_goVoyage 31 = .ok (.imul, 1) := by decide +kernel
theorem dX5_goVoyage_32 : decode cX5_goVoyage 32 = .ok (.iadd, 1) := by decide +kernel
theorem dX5_goVoyage_33 : decode cX5_goVoyage 33 = .ok (.iaload, 1) := by decide +kernel
theorem dX5_goVoyage_34 : decode cX5_goVoyage 34 = .ok (.aload_n 0, 1) := by decide +kernel
theorem dX5_goVoyage_35 : decode cX5_goVoyage 35 = .ok (.getfield 16, 3) := by decide +kernel
theorem dX5_goVoyage_38 : decode cX5_goVoyage 38 = .ok (.iload_n 1, 1) := by decide +kernel
theorem dX5_goVoyage_39 : decode cX5_goVoyage 39 = .ok (.iconst 2, 1) := by decide +kernel
theorem dX5_goVoyage_40 : decode cX5_goVoyage 40 = .ok (.iload_n 3, 1) := by decide +kernel
theorem dX5_goVoyage_41 : decode cX5_goVoyage 41 = .ok (.imul, 1) := by decide +kernel
theorem dX5_goVoyage_42 : decode cX5_goVoyage 42 = .ok (.iadd, 1) := by decide +kernel
theorem dX5_goVoyage_43 : decode cX5_goVoyage 43 = .ok (.iconst 1, 1) := by decide +kernel
theorem dX5_goVoyage_44 : decode cX5_goVoyage 44 = .ok (.iadd, 1) := by decide +kernel
theorem dX5_goVoyage_45 : decode cX5_goVoyage 45 = .ok (.iaload, 1) := by decide +kernel
theorem dX5_goVoyage_46 : decode cX5_goVoyage 46 = .ok (.invokevirtual 170, 3) := by decide +kernel
theorem dX5_goVoyage_49 : decode cX5_goVoyage 49 = .ok (.ifCond .ne 5, 3) := by decide +kernel
theorem dX5_goVoyage_52 : decode cX5_goVoyage 52 = .ok (.iload_n 3, 1) := by decide +kernel
theorem dX5_goVoyage_53 : decode cX5_goVoyage 53 = .ok (.ireturn, 1) := by decide +kernel
theorem dX5_goVoyage_54 : decode cX5_goVoyage 54 = .ok (.iinc 3 1, 3) := by decide +kernel
theorem dX5_goVoyage_57 : decode cX5_goVoyage 57 = .ok (.goto (-39), 3) := by decide +kernel
theorem dX5_goVoyage_60 : decode cX5_goVoyage 60 = .ok (.bipush (-9), 2) := by decide +kernel
theorem dX5_goVoyage_62 : decode cX5_goVoyage 62 = .ok (.ireturn, 1) := by decide +kernel
theorem dX5_refusesPair_0 : decode cX5_refusesPair 0 = .ok (.iload_n 2, 1) := by decide +kernel
theorem dX5_refusesPair_1 : decode cX5_refusesPair 1 = .ok (.iconst 0, 1) := by decide +kernel
theorem dX5_refusesPair_2 : decode cX5_refusesPair 2 = .ok (.bipush 8, 2) := by decide +kernel
theorem dX5_refusesPair_4 : decode cX5_refusesPair 4 = .ok (.invokestatic 67, 3) := by decide +kernel
theorem dX5_refusesPair_7 : decode cX5_refusesPair 7 = .ok (.ifCond .eq 16, 3) := by decide +kernel
theorem dX5_refusesPair_10 : decode cX5_refusesPair 10 = .ok (.iload_n 2, 1) := by decide +kernel
theorem dX5_refusesPair_11 : decode cX5_refusesPair 11 = .ok (.bipush 8, 2) := by decide +kernel
theorem dX5_refusesPair_13 : decode cX5_refusesPair 13 = .ok (.if_icmp .ne 13, 3) := by decide +kernel
theorem dX5_refusesPair_16 : decode cX5_refusesPair 16 = .ok (.iload_n 1, 1) := by decide +kernel
theorem dX5_refusesPair_17 : decode cX5_refusesPair 17 = .ok (.invokestatic 145, 3) := by decide +kernel
theorem dX5_refusesPair_20 : decode cX5_refusesPair 20 = .ok (.ifCond .ne 6, 3) := by decide +kernel
theorem dX5_refusesPair_23 : decode cX5_refusesPair 23 = .ok (.bipush (-2), 2) := by decide +kernel
theorem dX5_refusesPair_25 : decode cX5_refusesPair 25 = .ok (.ireturn, 1) := by decide +kernel
theorem dX5_refusesPair_26 : decode cX5_refusesPair 26 = .ok (.iload_n 2, 1) := by decide +kernel
theorem dX5_refusesPair_27 : decode cX5_refusesPair 27 = .ok (.bipush 8, 2) := by decide +kernel
theorem dX5_refusesPair_29 : decode cX5_refusesPair 29 = .ok (.if_icmp .eq 15, 3) := by decide +kernel
theorem dX5_refusesPair_32 : decode cX5_refusesPair 32 = .ok (.aload_n 0, 1) := by decide +kernel
theorem dX5_refusesPair_33 : decode cX5_refusesPair 33 = .ok (.iload_n 1, 1) := by decide +kernel
theorem dX5_refusesPair_34 : decode cX5_refusesPair 34 = .ok (.invokevirtual 127, 3) := by decide +kernel
theorem dX5_refusesPair_37 : decode cX5_refusesPair 37 = .ok (.ifCond .ne 7, 3) := by decide +kernel
theorem dX5_refusesPair_40 : decode cX5_refusesPair 40 = .ok (.iconst (-1), 1) := by decide +kernel
theorem dX5_refusesPair_41 : decode cX5_refusesPair 41 = .ok (.goto 4, 3) := by decide +kernel
theorem dX5_refusesPair_44 : decode cX5_refusesPair 44 = .ok (.iconst 0, 1) := by decide +kernel
theorem dX5_refusesPair_45 : decode cX5_refusesPair 45 = .ok (.ireturn, 1) := by decide +kernel
theorem dX5_voyage_0 : decode cX5_voyage 0 = .ok (.aload_n 0, 1) := by decide +kernel
theorem dX5_voyage_1 : decode cX5_voyage 1 = .ok (.iconst 0, 1) := by decide +kernel
theorem dX5_voyage_2 : decode cX5_voyage 2 = .ok (.putfield 61, 3) := by decide +kernel
theorem dX5_voyage_5 : decode cX5_voyage 5 = .ok (.iload_n 1, 1) := by decide +kernel
theorem dX5_voyage_6 : decode cX5_voyage 6 = .ok (.invokestatic 80, 3) := by decide +kernel
theorem dX5_voyage_9 : decode cX5_voyage 9 = .ok (.ifCond .ne 5, 3) := by decide +kernel
theorem dX5_voyage_12 : decode cX5_voyage 12 = .ok (.iconst (-1), 1) := by decide +kernel
theorem dX5_voyage_13 : decode cX5_voyage 13 = .ok (.ireturn, 1) := by decide +kernel
theorem dX5_voyage_14 : decode cX5_voyage 14 = .ok (.iload_n 2, 1) := by decide +kernel
theorem dX5_voyage_15 : decode cX5_voyage 15 = .ok (.invokestatic 84, 3) := by decide +kernel
theorem dX5_voyage_18 : decode cX5_voyage 18 = .ok (.ifCond .eq 36, 3) := by decide +kernel
theorem dX5_voyage_21 : decode cX5_voyage 21 = .ok (.iload 4, 2) := by decide +kernel
theorem dX5_voyage_23 : decode cX5_voyage 23 = .ok (.iconst 0, 1) := by decide +kernel
theorem dX5_voyage_24 : decode cX5_voyage 24 = .ok (.bipush 20, 2) := by decide +kernel
theorem dX5_voyage_26 : decode cX5_voyage 26 = .ok (.invokestatic 67, 3) := by decide +kernel
theorem dX5_voyage_29 : decode cX5_voyage 29 = .ok (.ifCond .eq 25, 3) := by decide +kernel
theorem dX5_voyage_32 : decode cX5_voyage 32 = .ok (.iload 5, 2) := by decide +kernel
theorem dX5_voyage_34 : decode cX5_voyage 34 = .ok (.iconst 0, 1) := by decide +kernel
theorem dX5_voyage_35 : decode cX5_voyage 35 = .ok (.iconst 4, 1) := by decide +kernel
theorem dX5_voyage_36 : decode cX5_voyage 36 = .ok (.invokestatic 67, 3) := by decide +kernel
theorem dX5_voyage_39 : decode cX5_voyage 39 = .ok (.ifCond .ne 18, 3) := by decide +kernel
theorem dX5_voyage_42 : decode cX5_voyage 42 = .ok (.iload 5, 2) := by decide +kernel
theorem dX5_voyage_44 : decode cX5_voyage 44 = .ok (.bipush 10, 2) := by decide +kernel
theorem dX5_voyage_46 : decode cX5_voyage 46 = .ok (.bipush 14, 2) := by decide +kernel
theorem dX5_voyage_48 : decode cX5_voyage 48 = .ok (.invokestatic 67, 3) := by decide +kernel
theorem dX5_voyage_51 : decode cX5_voyage 51 = .ok (.ifCond .ne 6, 3) := by decide +kernel
theorem dX5_voyage_54 : decode cX5_voyage 54 = .ok (.bipush (-2), 2) := by decide +kernel
theorem dX5_voyage_56 : decode cX5_voyage 56 = .ok (.ireturn, 1) := by decide +kernel
theorem dX5_voyage_57 : decode cX5_voyage 57 = .ok (.aload_n 0, 1) := by decide +kernel
theorem dX5_voyage_58 : decode cX5_voyage 58 = .ok (.iload_n 1, 1) := by decide +kernel
theorem dX5_voyage_59 : decode cX5_voyage 59 = .ok (.iload_n 2, 1) := by decide +kernel
theorem dX5_voyage_60 : decode cX5_voyage 60 = .ok (.iload_n 3, 1) := by decide +kernel
theorem dX5_voyage_61 : decode cX5_voyage 61 = .ok (.iconst 2, 1) := by decide +kernel
theorem dX5_voyage_62 : decode cX5_voyage 62 = .ok (.iload 4, 2) := by decide +kernel
theorem dX5_voyage_64 : decode cX5_voyage 64 = .ok (.imul, 1) := by decide +kernel
theorem dX5_voyage_65 : decode cX5_voyage 65 = .ok (.invokevirtual 87, 3) := by decide +kernel
theorem dX5_voyage_68 : decode cX5_voyage 68 = .ok (.istore 6, 2) := by decide +kernel
theorem dX5_voyage_70 : decode cX5_voyage 70 = .ok (.iload 6, 2) := by decide +kernel
theorem dX5_voyage_72 : decode cX5_voyage 72 = .ok (.ifCond .eq 10, 3) := by decide +kernel
theorem dX5_voyage_75 : decode cX5_voyage 75 = .ok (.aload_n 0, 1) := by decide +kernel
theorem dX5_voyage_76 : decode cX5_voyage 76 = .ok (.iload 6, 2) := by decide +kernel
theorem dX5_voyage_78 : decode cX5_voyage 78 = .ok (.invokevirtual 91, 3) := by decide +kernel
theorem dX5_voyage_81 : decode cX5_voyage 81 = .ok (.ireturn, 1) := by decide +kernel
theorem dX5_voyage_82 : decode cX5_voyage 82 = .ok (.aload_n 0, 1) := by decide +kernel
theorem dX5_voyage_83 : decode cX5_voyage 83 = .ok (.getfield 71, 3) := by decide +kernel
theorem dX5_voyage_86 : decode cX5_voyage 86 = .ok (.ifCond .ne 6, 3) := by decide +kernel
theorem dX5_voyage_89 : decode cX5_voyage 89 = .ok (.bipush (-3), 2) := by decide +kernel
theorem dX5_voyage_91 : decode cX5_voyage 91 = .ok (.ireturn, 1) := by decide +kernel
theorem dX5_voyage_92 : decode cX5_voyage 92 = .ok (.bipush 60, 2) := by decide +kernel
theorem dX5_voyage_94 : decode cX5_voyage 94 = .ok (.iload_n 1, 1) := by decide +kernel
theorem dX5_voyage_95 : decode cX5_voyage 95 = .ok (.imul, 1) := by decide +kernel
theorem dX5_voyage_96 : decode cX5_voyage 96 = .ok (.iload_n 3, 1) := by decide +kernel
theorem dX5_voyage_97 : decode cX5_voyage 97 = .ok (.iadd, 1) := by decide +kernel
theorem dX5_voyage_98 : decode cX5_voyage 98 = .ok (.istore 7, 2) := by decide +kernel
theorem dX5_voyage_100 : decode cX5_voyage 100 = .ok (.iconst 0, 1) := by decide +kernel
theorem dX5_voyage_101 : decode cX5_voyage 101 = .ok (.istore 8, 2) := by decide +kernel
theorem dX5_voyage_103 : decode cX5_voyage 103 = .ok (.iload 8, 2) := by decide +kernel
theorem dX5_voyage_105 : decode cX5_voyage 105 = .ok (.iload 4, 2) := by decide +kernel
theorem dX5_voyage_107 : decode cX5_voyage 107 = .ok (.if_icmp .ge 49, 3) := by decide +kernel
theorem dX5_voyage_110 : decode cX5_voyage 110 = .ok (.aload_n 0, 1) := by decide +kernel
theorem dX5_voyage_111 : decode cX5_voyage 111 = .ok (.aload_n 0, 1) := by decide +kernel
theorem dX5_voyage_112 : decode cX5_voyage 112 = .ok (.getfield 16, 3) := by decide +kernel
theorem dX5_voyage_115 : decode cX5_voyage 115 = .ok (.iload 7, 2) := by decide +kernel
theorem dX5_voyage_117 : decode cX5_voyage 117 = .ok (.iconst 2, 1) := by decide +kernel
theorem dX5_voyage_118 : decode cX5_voyage 118 = .ok (.iload 8, 2) := by decide +kernel
theorem dX5_voyage_120 : decode cX5_voyage 120 = .ok (.imul, 1) := by decide +kernel
theorem dX5_voyage_121 : decode cX5_voyage 121 = .ok (.iadd, 1) := by decide +kernel
theorem dX5_voyage_122 : decode cX5_voyage 122 = .ok (.iaload, 1) := by decide +kernel
theorem dX5_voyage_123 : decode cX5_voyage 123 = .ok (.aload_n 0, 1) := by decide +kernel
theorem dX5_voyage_124 : decode cX5_voyage 124 = .ok (.getfield 16, 3) := by decide +kernel
theorem dX5_voyage_127 : decode cX5_voyage 127 = .ok (.iload 7, 2) := by decide +kernel
theorem dX5_voyage_129 : decode cX5_voyage 129 = .ok (.iconst 2, 1) := by decide +kernel
theorem dX5_voyage_130 : decode cX5_voyage 130 = .ok (.iload 8, 2) := by decide +kernel
theorem dX5_voyage_132 : decode cX5_voyage 132 = .ok (.imul, 1) := by decide +kernel
theorem dX5_voyage_133 : decode cX5_voyage 133 = .ok (.iadd, 1) := by decide +kernel
theorem dX5_voyage_134 : decode cX5_voyage 134 = .ok (.iconst 1, 1) := by decide +kernel
theorem dX5_voyage_135 : decode cX5_voyage 135 = .ok (.iadd, 1) := by decide +kernel
theorem dX5_voyage_136 : decode cX5_voyage 136 = .ok (.iaload, 1) := by decide +kernel
theorem dX5_voyage_137 : decode cX5_voyage 137 = .ok (.invokevirtual 173, 3) := by decide +kernel
theorem dX5_voyage_140 : decode cX5_voyage 140 = .ok (.istore 9, 2) := by decide +kernel
theorem dX5_voyage_142 : decode cX5_voyage 142 = .ok (.iload 9, 2) := by decide +kernel
theorem dX5_voyage_144 : decode cX5_voyage 144 = .ok (.ifCond .eq 6, 3) := by decide +kernel
theorem dX5_voyage_147 : decode cX5_voyage 147 = .ok (.iload 9, 2) := by decide +kernel
theorem dX5_voyage_149 : decode cX5_voyage 149 = .ok (.ireturn, 1) := by decide +kernel
theorem dX5_voyage_150 : decode cX5_voyage 150 = .ok (.iinc 8 1, 3) := by decide +kernel
theorem dX5_voyage_153 : decode cX5_voyage 153 = .ok (.goto (-50), 3) := by decide +kernel
theorem dX5_voyage_156 : decode cX5_voyage 156 = .ok (.aload_n 0, 1) := by decide +kernel
theorem dX5_voyage_157 : decode cX5_voyage 157 = .ok (.invokevirtual 177, 3) := by decide +kernel
theorem dX5_voyage_160 : decode cX5_voyage 160 = .ok (.aload_n 0, 1) := by decide +kernel
theorem dX5_voyage_161 : decode cX5_voyage 161 = .ok (.iload 7, 2) := by decide +kernel
theorem dX5_voyage_163 : decode cX5_voyage 163 = .ok (.iload 4, 2) := by decide +kernel
theorem dX5_voyage_165 : decode cX5_voyage 165 = .ok (.invokevirtual 180, 3) := by decide +kernel
theorem dX5_voyage_168 : decode cX5_voyage 168 = .ok (.istore 8, 2) := by decide +kernel
theorem dX5_voyage_170 : decode cX5_voyage 170 = .ok (.aload_n 0, 1) := by decide +kernel
theorem dX5_voyage_171 : decode cX5_voyage 171 = .ok (.iload 5, 2) := by decide +kernel
theorem dX5_voyage_173 : decode cX5_voyage 173 = .ok (.invokevirtual 183, 3) := by decide +kernel
theorem dX5_voyage_176 : decode cX5_voyage 176 = .ok (.istore 9, 2) := by decide +kernel
theorem dX5_voyage_178 : decode cX5_voyage 178 = .ok (.aload_n 0, 1) := by decide +kernel
theorem dX5_voyage_179 : decode cX5_voyage 179 = .ok (.invokevirtual 186, 3) := by decide +kernel
theorem dX5_voyage_182 : decode cX5_voyage 182 = .ok (.iload 5, 2) := by decide +kernel
theorem dX5_voyage_184 : decode cX5_voyage 184 = .ok (.iconst 1, 1) := by decide +kernel
theorem dX5_voyage_185 : decode cX5_voyage 185 = .ok (.if_icmp .ne 8, 3) := by decide +kernel
theorem dX5_voyage_188 : decode cX5_voyage 188 = .ok (.iload 8, 2) := by decide +kernel
theorem dX5_voyage_190 : decode cX5_voyage 190 = .ok (.goto 20, 3) := by decide +kernel
theorem dX5_voyage_193 : decode cX5_voyage 193 = .ok (.iload 8, 2) := by decide +kernel
theorem dX5_voyage_195 : decode cX5_voyage 195 = .ok (.bipush (-9), 2) := by decide +kernel
theorem dX5_voyage_197 : decode cX5_voyage 197 = .ok (.if_icmp .ne 8, 3) := by decide +kernel
theorem dX5_voyage_200 : decode cX5_voyage 200 = .ok (.iload 9, 2) := by decide +kernel
theorem dX5_voyage_202 : decode cX5_voyage 202 = .ok (.goto 8, 3) := by decide +kernel
theorem dX5_voyage_205 : decode cX5_voyage 205 = .ok (.bipush (-100), 2) := by decide +kernel
theorem dX5_voyage_207 : decode cX5_voyage 207 = .ok (.iload 8, 2) := by decide +kernel
theorem dX5_voyage_209 : decode cX5_voyage 209 = .ok (.isub, 1) := by decide +kernel
theorem dX5_voyage_210 : decode cX5_voyage 210 = .ok (.ireturn, 1) := by decide +kernel
theorem dX5_metNow_0 : decode cX5_metNow 0 = .ok (.iconst 0, 1) := by decide +kernel
theorem dX5_metNow_1 : decode cX5_metNow 1 = .ok (.istore_n 1, 1) := by decide +kernel
theorem dX5_metNow_2 : decode cX5_metNow 2 = .ok (.iconst 0, 1) := by decide +kernel
theorem dX5_metNow_3 : decode cX5_metNow 3 = .ok (.istore_n 2, 1) := by decide +kernel
theorem dX5_metNow_4 : decode cX5_metNow 4 = .ok (.iload_n 2, 1) := by decide +kernel
theorem dX5_metNow_5 : decode cX5_metNow 5 = .ok (.aload_n 0, 1) := by decide +kernel
theorem dX5_metNow_6 : decode cX5_metNow 6 = .ok (.getfield 71, 3) := by decide +kernel
theorem dX5_metNow_9 : decode cX5_metNow 9 = .ok (.if_icmp .ge 27, 3) := by decide +kernel
theorem dX5_metNow_12 : decode cX5_metNow 12 = .ok (.iload_n 1, 1) := by decide +kernel
theorem dX5_metNow_13 : decode cX5_metNow 13 = .ok (.aload_n 0, 1) := by decide +kernel
theorem dX5_metNow_14 : decode cX5_metNow 14 = .ok (.iload_n 2, 1) := by decide +kernel
theorem dX5_metNow_15 : decode cX5_metNow 15 = .ok (.invokevirtual 133, 3) := by decide +kernel
theorem dX5_metNow_18 : decode cX5_metNow 18 = .ok (.ifCond .eq 9, 3) := by decide +kernel
theorem dX5_metNow_21 : decode cX5_metNow 21 = .ok (.iconst 1, 1) := by decide +kernel
theorem dX5_metNow_22 : decode cX5_metNow 22 = .ok (.iload_n 2, 1) := by decide +kernel
theorem dX5_metNow_23 : decode cX5_metNow 23 = .ok (.ishl, 1) := by decide +kernel
theorem dX5_metNow_24 : decode cX5_metNow 24 = .ok (.goto 4, 3) := by decide +kernel
theorem dX5_metNow_27 : decode cX5_metNow 27 = .ok (.iconst 0, 1) := by decide +kernel
theorem dX5_metNow_28 : decode cX5_metNow 28 = .ok (.ior, 1) := by decide +kernel
theorem dX5_metNow_29 : decode cX5_metNow 29 = .ok (.istore_n 1, 1) := by decide +kernel
theorem dX5_metNow_30 : decode cX5_metNow 30 = .ok (.iinc 2 1, 3) := by decide +kernel
theorem dX5_metNow_33 : decode cX5_metNow 33 = .ok (.goto (-29), 3) := by decide +kernel
theorem dX5_metNow_36 : decode cX5_metNow 36 = .ok (.iload_n 1, 1) := by decide +kernel
theorem dX5_metNow_37 : decode cX5_metNow 37 = .ok (.ireturn, 1) := by decide +kernel
theorem dX5_tellVoyage_0 : decode cX5_tellVoyage 0 = .ok (.iload_n 1, 1) := by decide +kernel
theorem dX5_tellVoyage_1 : decode cX5_tellVoyage 1 = .ok (.bipush 10, 2) := by decide +kernel
theorem dX5_tellVoyage_3 : decode cX5_tellVoyage 3 = .ok (.if_icmp .lt 28, 3) := by decide +kernel
theorem dX5_tellVoyage_6 : decode cX5_tellVoyage 6 = .ok (.aload_n 0, 1) := by decide +kernel
theorem dX5_tellVoyage_7 : decode cX5_tellVoyage 7 = .ok (.iload_n 1, 1) := by decide +kernel
theorem dX5_tellVoyage_8 : decode cX5_tellVoyage 8 = .ok (.bipush 10, 2) := by decide +kernel
theorem dX5_tellVoyage_10 : decode cX5_tellVoyage 10 = .ok (.isub, 1) := by decide +kernel
theorem dX5_tellVoyage_11 : decode cX5_tellVoyage 11 = .ok (.invokevirtual 127, 3) := by decide +kernel
theorem dX5_tellVoyage_14 : decode cX5_tellVoyage 14 = .ok (.ifCond .eq 14, 3) := by decide +kernel
theorem dX5_tellVoyage_17 : decode cX5_tellVoyage 17 = .ok (.aload_n 0, 1) := by decide +kernel
theorem dX5_tellVoyage_18 : decode cX5_tellVoyage 18 = .ok (.iload_n 1, 1) := by decide +kernel
theorem dX5_tellVoyage_19 : decode cX5_tellVoyage 19 = .ok (.bipush 10, 2) := by decide +kernel
theorem dX5_tellVoyage_21 : decode cX5_tellVoyage 21 = .ok (.isub, 1) := by decide +kernel
theorem dX5_tellVoyage_22 : decode cX5_tellVoyage 22 = .ok (.invokevirtual 136, 3) := by decide +kernel
theorem dX5_tellVoyage_25 : decode cX5_tellVoyage 25 = .ok (.goto 5, 3) := by decide +kernel
theorem dX5_tellVoyage_28 : decode cX5_tellVoyage 28 = .ok (.bipush (-9), 2) := by decide +kernel
theorem dX5_tellVoyage_30 : decode cX5_tellVoyage 30 = .ok (.ireturn, 1) := by decide +kernel
theorem dX5_tellVoyage_31 : decode cX5_tellVoyage 31 = .ok (.iload_n 1, 1) := by decide +kernel
theorem dX5_tellVoyage_32 : decode cX5_tellVoyage 32 = .ok (.tableswitch 47 0 3 #[32, 47, 37, 42], 32) := by decide +kernel
theorem dX5_tellVoyage_64 : decode cX5_tellVoyage 64 = .ok (.aload_n 0, 1) := by decide +kernel
theorem dX5_tellVoyage_65 : decode cX5_tellVoyage 65 = .ok (.getfield 157, 3) := by decide +kernel
theorem dX5_tellVoyage_68 : decode cX5_tellVoyage 68 = .ok (.ireturn, 1) := by decide +kernel
theorem dX5_tellVoyage_69 : decode cX5_tellVoyage 69 = .ok (.aload_n 0, 1) := by decide +kernel
theorem dX5_tellVoyage_70 : decode cX5_tellVoyage 70 = .ok (.invokevirtual 189, 3) := by decide +kernel
theorem dX5_tellVoyage_73 : decode cX5_tellVoyage 73 = .ok (.ireturn, 1) := by decide +kernel
theorem dX5_tellVoyage_74 : decode cX5_tellVoyage 74 = .ok (.aload_n 0, 1) := by decide +kernel
theorem dX5_tellVoyage_75 : decode cX5_tellVoyage 75 = .ok (.getfield 160, 3) := by decide +kernel
theorem dX5_tellVoyage_78 : decode cX5_tellVoyage 78 = .ok (.ireturn, 1) := by decide +kernel
theorem dX5_tellVoyage_79 : decode cX5_tellVoyage 79 = .ok (.aload_n 0, 1) := by decide +kernel
theorem dX5_tellVoyage_80 : decode cX5_tellVoyage 80 = .ok (.getfield 163, 3) := by decide +kernel
theorem dX5_tellVoyage_83 : decode cX5_tellVoyage 83 = .ok (.ireturn, 1) := by decide +kernel
theorem dX5_keeps_0 : decode cX5_keeps 0 = .ok (.aload_n 0, 1) := by decide +kernel
theorem dX5_keeps_1 : decode cX5_keeps 1 = .ok (.iload_n 1, 1) := by decide +kernel
theorem dX5_keeps_2 : decode cX5_keeps 2 = .ok (.invokevirtual 127, 3) := by decide +kernel
theorem dX5_keeps_5 : decode cX5_keeps 5 = .ok (.ifCond .ne 5, 3) := by decide +kernel
theorem dX5_keeps_8 : decode cX5_keeps 8 = .ok (.iconst (-1), 1) := by decide +kernel
theorem dX5_keeps_9 : decode cX5_keeps 9 = .ok (.ireturn, 1) := by decide +kernel
theorem dX5_keeps_10 : decode cX5_keeps 10 = .ok (.aload_n 0, 1) := by decide +kernel
theorem dX5_keeps_11 : decode cX5_keeps 11 = .ok (.invokevirtual 177, 3) := by decide +kernel
theorem dX5_keeps_14 : decode cX5_keeps 14 = .ok (.iconst 0, 1) := by decide +kernel
theorem dX5_keeps_15 : decode cX5_keeps 15 = .ok (.istore_n 2, 1) := by decide +kernel
theorem dX5_keeps_16 : decode cX5_keeps 16 = .ok (.iload_n 2, 1) := by decide +kernel
theorem dX5_keeps_17 : decode cX5_keeps 17 = .ok (.bipush 30, 2) := by decide +kernel
theorem dX5_keeps_19 : decode cX5_keeps 19 = .ok (.if_icmp .gt 23, 3) := by decide +kernel
theorem dX5_keeps_22 : decode cX5_keeps 22 = .ok (.aload_n 0, 1) := by decide +kernel
theorem dX5_keeps_23 : decode cX5_keeps 23 = .ok (.iload_n 1, 1) := by decide +kernel
theorem dX5_keeps_24 : decode cX5_keeps 24 = .ok (.invokevirtual 133, 3) := by decide +kernel
theorem dX5_keeps_27 : decode cX5_keeps 27 = .ok (.ifCond .ne 15, 3) := by decide +kernel
theorem dX5_keeps_30 : decode cX5_keeps 30 = .ok (.aload_n 0, 1) := by decide +kernel
theorem dX5_keeps_31 : decode cX5_keeps 31 = .ok (.iload_n 1, 1) := by decide +kernel
theorem dX5_keeps_32 : decode cX5_keeps 32 = .ok (.invokevirtual 154, 3) := by decide +kernel
theorem dX5_keeps_35 : decode cX5_keeps 35 = .ok (.pop, 1) := by decide +kernel
theorem dX5_keeps_36 : decode cX5_keeps 36 = .ok (.iinc 2 1, 3) := by decide +kernel
theorem dX5_keeps_39 : decode cX5_keeps 39 = .ok (.goto (-23), 3) := by decide +kernel
theorem dX5_keeps_42 : decode cX5_keeps 42 = .ok (.aload_n 0, 1) := by decide +kernel
theorem dX5_keeps_43 : decode cX5_keeps 43 = .ok (.invokevirtual 186, 3) := by decide +kernel
theorem dX5_keeps_46 : decode cX5_keeps 46 = .ok (.iload_n 2, 1) := by decide +kernel
theorem dX5_keeps_47 : decode cX5_keeps 47 = .ok (.bipush 30, 2) := by decide +kernel
theorem dX5_keeps_49 : decode cX5_keeps 49 = .ok (.if_icmp .gt 7, 3) := by decide +kernel
theorem dX5_keeps_52 : decode cX5_keeps 52 = .ok (.iload_n 2, 1) := by decide +kernel
theorem dX5_keeps_53 : decode cX5_keeps 53 = .ok (.goto 5, 3) := by decide +kernel
theorem dX5_keeps_56 : decode cX5_keeps 56 = .ok (.bipush (-9), 2) := by decide +kernel
theorem dX5_keeps_58 : decode cX5_keeps 58 = .ok (.ireturn, 1) := by decide +kernel
theorem dX5_losesIn_0 : decode cX5_losesIn 0 = .ok (.iconst 0, 1) := by decide +kernel
theorem dX5_losesIn_1 : decode cX5_losesIn 1 = .ok (.istore_n 3, 1) := by decide +kernel
theorem dX5_losesIn_2 : decode cX5_losesIn 2 = .ok (.iconst 0, 1) := by decide +kernel
theorem dX5_losesIn_3 : decode cX5_losesIn 3 = .ok (.istore 4, 2) := by decide +kernel
theorem dX5_losesIn_5 : decode cX5_losesIn 5 = .ok (.iload 4, 2) := by decide +kernel
theorem dX5_losesIn_7 : decode cX5_losesIn 7 = .ok (.iload_n 2, 1) := by decide +kernel
theorem dX5_losesIn_8 : decode cX5_losesIn 8 = .ok (.if_icmp .ge 34, 3) := by decide +kernel
theorem dX5_losesIn_11 : decode cX5_losesIn 11 = .ok (.aload_n 0, 1) := by decide +kernel
theorem dX5_losesIn_12 : decode cX5_losesIn 12 = .ok (.iload_n 1, 1) := by decide +kernel
theorem dX5_losesIn_13 : decode cX5_losesIn 13 = .ok (.invokevirtual 154, 3) := by decide +kernel
theorem dX5_losesIn_16 : decode cX5_losesIn 16 = .ok (.istore 5, 2) := by decide +kernel
theorem dX5_losesIn_18 : decode cX5_losesIn 18 = .ok (.iload_n 3, 1) := by decide +kernel
theorem dX5_losesIn_19 : decode cX5_losesIn 19 = .ok (.iload 5, 2) := by decide +kernel
theorem dX5_losesIn_21 : decode cX5_losesIn 21 = .ok (.bipush (-9), 2) := by decide +kernel
theorem dX5_losesIn_23 : decode cX5_losesIn 23 = .ok (.if_icmp .ne 7, 3) := by decide +kernel
theorem dX5_losesIn_26 : decode cX5_losesIn 26 = .ok (.iconst 0, 1) := by decide +kernel
theorem dX5_losesIn_27 : decode cX5_losesIn 27 = .ok (.goto 7, 3) := by decide +kernel
theorem dX5_losesIn_30 : decode cX5_losesIn 30 = .ok (.iload 5, 2) := by decide +kernel
theorem dX5_losesIn_32 : decode cX5_losesIn 32 = .ok (.iconst 1, 1) := by decide +kernel
theorem dX5_losesIn_33 : decode cX5_losesIn 33 = .ok (.iadd, 1) := by decide +kernel
theorem dX5_losesIn_34 : decode cX5_losesIn 34 = .ok (.iadd, 1) := by decide +kernel
theorem dX5_losesIn_35 : decode cX5_losesIn 35 = .ok (.istore_n 3, 1) := by decide +kernel
theorem dX5_losesIn_36 : decode cX5_losesIn 36 = .ok (.iinc 4 1, 3) := by decide +kernel
theorem dX5_losesIn_39 : decode cX5_losesIn 39 = .ok (.goto (-34), 3) := by decide +kernel
theorem dX5_losesIn_42 : decode cX5_losesIn 42 = .ok (.iload_n 3, 1) := by decide +kernel
theorem dX5_losesIn_43 : decode cX5_losesIn 43 = .ok (.ireturn, 1) := by decide +kernel
theorem dX5_harbour_0 : decode cX5_harbour 0 = .ok (.aload_n 0, 1) := by decide +kernel
theorem dX5_harbour_1 : decode cX5_harbour 1 = .ok (.iload_n 1, 1) := by decide +kernel
theorem dX5_harbour_2 : decode cX5_harbour 2 = .ok (.invokevirtual 127, 3) := by decide +kernel
theorem dX5_harbour_5 : decode cX5_harbour 5 = .ok (.ifCond .ne 5, 3) := by decide +kernel
theorem dX5_harbour_8 : decode cX5_harbour 8 = .ok (.iconst (-1), 1) := by decide +kernel
theorem dX5_harbour_9 : decode cX5_harbour 9 = .ok (.ireturn, 1) := by decide +kernel
theorem dX5_harbour_10 : decode cX5_harbour 10 = .ok (.iload_n 2, 1) := by decide +kernel
theorem dX5_harbour_11 : decode cX5_harbour 11 = .ok (.iconst 0, 1) := by decide +kernel
theorem dX5_harbour_12 : decode cX5_harbour 12 = .ok (.bipush 30, 2) := by decide +kernel
theorem dX5_harbour_14 : decode cX5_harbour 14 = .ok (.invokestatic 67, 3) := by decide +kernel
theorem dX5_harbour_17 : decode cX5_harbour 17 = .ok (.ifCond .eq 12, 3) := by decide +kernel
theorem dX5_harbour_20 : decode cX5_harbour 20 = .ok (.iload_n 3, 1) := by decide +kernel
theorem dX5_harbour_21 : decode cX5_harbour 21 = .ok (.iconst 0, 1) := by decide +kernel
theorem dX5_harbour_22 : decode cX5_harbour 22 = .ok (.iconst 1, 1) := by decide +kernel
theorem dX5_harbour_23 : decode cX5_harbour 23 = .ok (.invokestatic 67, 3) := by decide +kernel
theorem dX5_harbour_26 : decode cX5_harbour 26 = .ok (.ifCond .ne 6, 3) := by decide +kernel
theorem dX5_harbour_29 : decode cX5_harbour 29 = .ok (.bipush (-2), 2) := by decide +kernel
theorem dX5_harbour_31 : decode cX5_harbour 31 = .ok (.ireturn, 1) := by decide +kernel
theorem dX5_harbour_32 : decode cX5_harbour 32 = .ok (.aload_n 0, 1) := by decide +kernel
theorem dX5_harbour_33 : decode cX5_harbour 33 = .ok (.invokevirtual 177, 3) := by decide +kernel
theorem dX5_harbour_36 : decode cX5_harbour 36 = .ok (.bipush (-9), 2) := by decide +kernel
theorem dX5_harbour_38 : decode cX5_harbour 38 = .ok (.istore 4, 2) := by decide +kernel
theorem dX5_harbour_40 : decode cX5_harbour 40 = .ok (.iconst 0, 1) := by decide +kernel
theorem dX5_harbour_41 : decode cX5_harbour 41 = .ok (.istore 5, 2) := by decide +kernel
theorem dX5_harbour_43 : decode cX5_harbour 43 = .ok (.iconst 0, 1) := by decide +kernel
theorem dX5_harbour_44 : decode cX5_harbour 44 = .ok (.istore 6, 2) := by decide +kernel
theorem dX5_harbour_46 : decode cX5_harbour 46 = .ok (.iload 6, 2) := by decide +kernel
theorem dX5_harbour_48 : decode cX5_harbour 48 = .ok (.aload_n 0, 1) := by decide +kernel
theorem dX5_harbour_49 : decode cX5_harbour 49 = .ok (.getfield 74, 3) := by decide +kernel
theorem dX5_harbour_52 : decode cX5_harbour 52 = .ok (.if_icmp .ge 51, 3) := by decide +kernel
theorem dX5_harbour_55 : decode cX5_harbour 55 = .ok (.aload_n 0, 1) := by decide +kernel
theorem dX5_harbour_56 : decode cX5_harbour 56 = .ok (.getfield 31, 3) := by decide +kernel
theorem dX5_harbour_59 : decode cX5_harbour 59 = .ok (.iload_n 1, 1) := by decide +kernel
theorem dX5_harbour_60 : decode cX5_harbour 60 = .ok (.iload 6, 2) := by decide +kernel
theorem dX5_harbour_62 : decode cX5_harbour 62 = .ok (.iastore, 1) := by decide +kernel
theorem dX5_harbour_63 : decode cX5_harbour 63 = .ok (.aload_n 0, 1) := by decide +kernel
theorem dX5_harbour_64 : decode cX5_harbour 64 = .ok (.iload_n 1, 1) := by decide +kernel
theorem dX5_harbour_65 : decode cX5_harbour 65 = .ok (.iload_n 2, 1) := by decide +kernel
theorem dX5_harbour_66 : decode cX5_harbour 66 = .ok (.invokevirtual 193, 3) := by decide +kernel
theorem dX5_harbour_69 : decode cX5_harbour 69 = .ok (.istore 7, 2) := by decide +kernel
theorem dX5_harbour_71 : decode cX5_harbour 71 = .ok (.aload_n 0, 1) := by decide +kernel
theorem dX5_harbour_72 : decode cX5_harbour 72 = .ok (.invokevirtual 186, 3) := by decide +kernel
theorem dX5_harbour_75 : decode cX5_harbour 75 = .ok (.iload 4, 2) := by decide +kernel
theorem dX5_harbour_77 : decode cX5_harbour 77 = .ok (.bipush (-9), 2) := by decide +kernel
theorem dX5_harbour_79 : decode cX5_harbour 79 = .ok (.if_icmp .eq 10, 3) := by decide +kernel
theorem dX5_harbour_82 : decode cX5_harbour 82 = .ok (.iload 7, 2) := by decide +kernel
theorem dX5_harbour_84 : decode cX5_harbour 84 = .ok (.iload 5, 2) := by decide +kernel
theorem dX5_harbour_86 : decode cX5_harbour 86 = .ok (.if_icmp .ge 11, 3) := by decide +kernel
theorem dX5_harbour_89 : decode cX5_harbour 89 = .ok (.iload 6, 2) := by decide +kernel
theorem dX5_harbour_91 : decode cX5_harbour 91 = .ok (.istore 4, 2) := by decide +kernel
theorem dX5_harbour_93 : decode cX5_harbour 93 = .ok (.iload 7, 2) := by decide +kernel
theorem dX5_harbour_95 : decode cX5_harbour 95 = .ok (.istore 5, 2) := by decide +kernel
theorem dX5_harbour_97 : decode cX5_harbour 97 = .ok (.iinc 6 1, 3) := by decide +kernel
theorem dX5_harbour_100 : decode cX5_harbour 100 = .ok (.goto (-54), 3) := by decide +kernel
theorem dX5_harbour_103 : decode cX5_harbour 103 = .ok (.iload_n 3, 1) := by decide +kernel
theorem dX5_harbour_104 : decode cX5_harbour 104 = .ok (.ifCond .ne 8, 3) := by decide +kernel
theorem dX5_harbour_107 : decode cX5_harbour 107 = .ok (.iload 4, 2) := by decide +kernel
theorem dX5_harbour_109 : decode cX5_harbour 109 = .ok (.goto 5, 3) := by decide +kernel
theorem dX5_harbour_112 : decode cX5_harbour 112 = .ok (.iload 5, 2) := by decide +kernel
theorem dX5_harbour_114 : decode cX5_harbour 114 = .ok (.ireturn, 1) := by decide +kernel
theorem dX5_tryStow_0 : decode cX5_tryStow 0 = .ok (.iload_n 3, 1) := by decide +kernel
theorem dX5_tryStow_1 : decode cX5_tryStow 1 = .ok (.istore 4, 2) := by decide +kernel
theorem dX5_tryStow_3 : decode cX5_tryStow 3 = .ok (.iconst 3, 1) := by decide +kernel
theorem dX5_tryStow_4 : decode cX5_tryStow 4 = .ok (.istore 5, 2) := by decide +kernel
theorem dX5_tryStow_6 : decode cX5_tryStow 6 = .ok (.iload 5, 2) := by decide +kernel
theorem dX5_tryStow_8 : decode cX5_tryStow 8 = .ok (.ifCond .lt 32, 3) := by decide +kernel
theorem dX5_tryStow_11 : decode cX5_tryStow 11 = .ok (.aload_n 0, 1) := by decide +kernel
theorem dX5_tryStow_12 : decode cX5_tryStow 12 = .ok (.getfield 34, 3) := by decide +kernel
theorem dX5_tryStow_15 : decode cX5_tryStow 15 = .ok (.iconst 4, 1) := by decide +kernel
theorem dX5_tryStow_16 : decode cX5_tryStow 16 = .ok (.iload_n 1, 1) := by decide +kernel
theorem dX5_tryStow_17 : decode cX5_tryStow 17 = .ok (.imul, 1) := by decide +kernel
theorem dX5_tryStow_18 : decode cX5_tryStow 18 = .ok (.iload 5, 2) := by decide +kernel
theorem dX5_tryStow_20 : decode cX5_tryStow 20 = .ok (.iadd, 1) := by decide +kernel
theorem dX5_tryStow_21 : decode cX5_tryStow 21 = .ok (.iload 4, 2) := by decide +kernel
theorem dX5_tryStow_23 : decode cX5_tryStow 23 = .ok (.bipush 10, 2) := by decide +kernel
theorem dX5_tryStow_25 : decode cX5_tryStow 25 = .ok (.irem, 1) := by decide +kernel
theorem dX5_tryStow_26 : decode cX5_tryStow 26 = .ok (.iastore, 1) := by decide +kernel
theorem dX5_tryStow_27 : decode cX5_tryStow 27 = .ok (.iload 4, 2) := by decide +kernel
theorem dX5_tryStow_29 : decode cX5_tryStow 29 = .ok (.bipush 10, 2) := by decide +kernel
theorem dX5_tryStow_31 : decode cX5_tryStow 31 = .ok (.idiv, 1) := by decide +kernel
theorem dX5_tryStow_32 : decode cX5_tryStow 32 = .ok (.istore 4, 2) := by decide +kernel
theorem dX5_tryStow_34 : decode cX5_tryStow 34 = .ok (.iinc 5 (-1), 3) := by decide +kernel
theorem dX5_tryStow_37 : decode cX5_tryStow 37 = .ok (.goto (-31), 3) := by decide +kernel
theorem dX5_tryStow_40 : decode cX5_tryStow 40 = .ok (.aload_n 0, 1) := by decide +kernel
theorem dX5_tryStow_41 : decode cX5_tryStow 41 = .ok (.iload_n 1, 1) := by decide +kernel
theorem dX5_tryStow_42 : decode cX5_tryStow 42 = .ok (.iload_n 2, 1) := by decide +kernel
theorem dX5_tryStow_43 : decode cX5_tryStow 43 = .ok (.invokevirtual 193, 3) := by decide +kernel
theorem dX5_tryStow_46 : decode cX5_tryStow 46 = .ok (.istore 5, 2) := by decide +kernel
theorem dX5_tryStow_48 : decode cX5_tryStow 48 = .ok (.aload_n 0, 1) := by decide +kernel
theorem dX5_tryStow_49 : decode cX5_tryStow 49 = .ok (.iload_n 1, 1) := by decide +kernel
theorem dX5_tryStow_50 : decode cX5_tryStow 50 = .ok (.invokevirtual 136, 3) := by decide +kernel
theorem dX5_tryStow_53 : decode cX5_tryStow 53 = .ok (.istore 6, 2) := by decide +kernel
theorem dX5_tryStow_55 : decode cX5_tryStow 55 = .ok (.aload_n 0, 1) := by decide +kernel
theorem dX5_tryStow_56 : decode cX5_tryStow 56 = .ok (.getfield 196, 3) := by decide +kernel
theorem dX5_tryStow_59 : decode cX5_tryStow 59 = .ok (.bipush (-9), 2) := by decide +kernel
theorem dX5_tryStow_61 : decode cX5_tryStow 61 = .ok (.if_icmp .eq 30, 3) := by decide +kernel
theorem dX5_tryStow_64 : decode cX5_tryStow 64 = .ok (.iload 5, 2) := by decide +kernel
theorem dX5_tryStow_66 : decode cX5_tryStow 66 = .ok (.aload_n 0, 1) := by decide +kernel
theorem dX5_tryStow_67 : decode cX5_tryStow 67 = .ok (.getfield 196, 3) := by decide +kernel
theorem dX5_tryStow_70 : decode cX5_tryStow 70 = .ok (.if_icmp .lt 21, 3) := by decide +kernel
theorem dX5_tryStow_73 : decode cX5_tryStow 73 = .ok (.iload 5, 2) := by decide +kernel
theorem dX5_tryStow_75 : decode cX5_tryStow 75 = .ok (.aload_n 0, 1) := by decide +kernel
theorem dX5_tryStow_76 : decode cX5_tryStow 76 = .ok (.getfield 196, 3) := by decide +kernel
theorem dX5_tryStow_79 : decode cX5_tryStow 79 = .ok (.if_icmp .ne 60, 3) := by decide +kernel
theorem dX5_tryStow_82 : decode cX5_tryStow 82 = .ok (.iload 6, 2) := by decide +kernel
theorem dX5_tryStow_84 : decode cX5_tryStow 84 = .ok (.aload_n 0, 1) := by decide +kernel
theorem dX5_tryStow_85 : decode cX5_tryStow 85 = .ok (.getfield 199, 3) := by decide +kernel
theorem dX5_tryStow_88 : decode cX5_tryStow 88 = .ok (.if_icmp .le 51, 3) := by decide +kernel
theorem dX5_tryStow_91 : decode cX5_tryStow 91 = .ok (.aload_n 0, 1) := by decide +kernel
theorem dX5_tryStow_92 : decode cX5_tryStow 92 = .ok (.iload 5, 2) := by decide +kernel
theorem dX5_tryStow_94 : decode cX5_tryStow 94 = .ok (.putfield 196, 3) := by decide +kernel
theorem dX5_tryStow_97 : decode cX5_tryStow 97 = .ok (.aload_n 0, 1) := by decide +kernel
theorem dX5_tryStow_98 : decode cX5_tryStow 98 = .ok (.iload 6, 2) := by decide +kernel
theorem dX5_tryStow_100 : decode cX5_tryStow 100 = .ok (.putfield 199, 3) := by decide +kernel
theorem dX5_tryStow_103 : decode cX5_tryStow 103 = .ok (.iconst 3, 1) := by decide +kernel
theorem dX5_tryStow_104 : decode cX5_tryStow 104 = .ok (.istore 7, 2) := by decide +kernel
theorem dX5_tryStow_106 : decode cX5_tryStow 106 = .ok (.iload_n 3, 1) := by decide +kernel
theorem dX5_tryStow_107 : decode cX5_tryStow 107 = .ok (.istore 8, 2) := by decide +kernel
theorem dX5_tryStow_109 : decode cX5_tryStow 109 = .ok (.iload 7, 2) := by decide +kernel
theorem dX5_tryStow_111 : decode cX5_tryStow 111 = .ok (.ifCond .lt 28, 3) := by decide +kernel
theorem dX5_tryStow_114 : decode cX5_tryStow 114 = .ok (.aload_n 0, 1) := by decide +kernel
theorem dX5_tryStow_115 : decode cX5_tryStow 115 = .ok (.getfield 49, 3) := by decide +kernel
theorem dX5_tryStow_118 : decode cX5_tryStow 118 = .ok (.iload 7, 2) := by decide +kernel
theorem dX5_tryStow_120 : decode cX5_tryStow 120 = .ok (.iload 8, 2) := by decide +kernel
theorem dX5_tryStow_122 : decode cX5_tryStow 122 = .ok (.bipush 10, 2) := by decide +kernel
theorem dX5_tryStow_124 : decode cX5_tryStow 124 = .ok (.irem, 1) := by decide +kernel
theorem dX5_tryStow_125 : decode cX5_tryStow 125 = .ok (.iastore, 1) := by decide +kernel
theorem dX5_tryStow_126 : decode cX5_tryStow 126 = .ok (.iload 8, 2) := by decide +kernel
theorem dX5_tryStow_128 : decode cX5_tryStow 128 = .ok (.bipush 10, 2) := by decide +kernel
theorem dX5_tryStow_130 : decode cX5_tryStow 130 = .ok (.idiv, 1) := by decide +kernel
theorem dX5_tryStow_131 : decode cX5_tryStow 131 = .ok (.istore 8, 2) := by decide +kernel
theorem dX5_tryStow_133 : decode cX5_tryStow 133 = .ok (.iinc 7 (-1), 3) := by decide +kernel
theorem dX5_tryStow_136 : decode cX5_tryStow 136 = .ok (.goto (-27), 3) := by decide +kernel
theorem dX5_tryStow_139 : decode cX5_tryStow 139 = .ok (.aload_n 0, 1) := by decide +kernel
theorem dX5_tryStow_140 : decode cX5_tryStow 140 = .ok (.invokevirtual 186, 3) := by decide +kernel
theorem dX5_tryStow_143 : decode cX5_tryStow 143 = .ok (.return_, 1) := by decide +kernel
theorem dX5_digitSum_0 : decode cX5_digitSum 0 = .ok (.iconst 0, 1) := by decide +kernel
theorem dX5_digitSum_1 : decode cX5_digitSum 1 = .ok (.istore_n 1, 1) := by decide +kernel
theorem dX5_digitSum_2 : decode cX5_digitSum 2 = .ok (.iload_n 0, 1) := by decide +kernel
theorem dX5_digitSum_3 : decode cX5_digitSum 3 = .ok (.istore_n 2, 1) := by decide +kernel
theorem dX5_digitSum_4 : decode cX5_digitSum 4 = .ok (.iload_n 2, 1) := by decide +kernel
theorem dX5_digitSum_5 : decode cX5_digitSum 5 = .ok (.ifCond .le 18, 3) := by decide +kernel
theorem dX5_digitSum_8 : decode cX5_digitSum 8 = .ok (.iload_n 1, 1) := by decide +kernel
theorem dX5_digitSum_9 : decode cX5_digitSum 9 = .ok (.iload_n 2, 1) := by decide +kernel
theorem dX5_digitSum_10 : decode cX5_digitSum 10 = .ok (.bipush 10, 2) := by decide +kernel
theorem dX5_digitSum_12 : decode cX5_digitSum 12 = .ok (.irem, 1) := by decide +kernel
theorem dX5_digitSum_13 : decode cX5_digitSum 13 = .ok (.iadd, 1) := by decide +kernel
theorem dX5_digitSum_14 : decode cX5_digitSum 14 = .ok (.istore_n 1, 1) := by decide +kernel
theorem dX5_digitSum_15 : decode cX5_digitSum 15 = .ok (.iload_n 2, 1) := by decide +kernel
theorem dX5_digitSum_16 : decode cX5_digitSum 16 = .ok (.bipush 10, 2) := by decide +kernel
theorem dX5_digitSum_18 : decode cX5_digitSum 18 = .ok (.idiv, 1) := by decide +kernel
theorem dX5_digitSum_19 : decode cX5_digitSum 19 = .ok (.istore_n 2, 1) := by decide +kernel
theorem dX5_digitSum_20 : decode cX5_digitSum 20 = .ok (.goto (-16), 3) := by decide +kernel
theorem dX5_digitSum_23 : decode cX5_digitSum 23 = .ok (.iload_n 1, 1) := by decide +kernel
theorem dX5_digitSum_24 : decode cX5_digitSum 24 = .ok (.ireturn, 1) := by decide +kernel
theorem dX5_stow_0 : decode cX5_stow 0 = .ok (.aload_n 0, 1) := by decide +kernel
theorem dX5_stow_1 : decode cX5_stow 1 = .ok (.iload_n 1, 1) := by decide +kernel
theorem dX5_stow_2 : decode cX5_stow 2 = .ok (.invokevirtual 127, 3) := by decide +kernel
theorem dX5_stow_5 : decode cX5_stow 5 = .ok (.ifCond .ne 5, 3) := by decide +kernel
theorem dX5_stow_8 : decode cX5_stow 8 = .ok (.iconst (-1), 1) := by decide +kernel
theorem dX5_stow_9 : decode cX5_stow 9 = .ok (.ireturn, 1) := by decide +kernel
theorem dX5_stow_10 : decode cX5_stow 10 = .ok (.iload_n 2, 1) := by decide +kernel
theorem dX5_stow_11 : decode cX5_stow 11 = .ok (.iconst 0, 1) := by decide +kernel
theorem dX5_stow_12 : decode cX5_stow 12 = .ok (.bipush 30, 2) := by decide +kernel
theorem dX5_stow_14 : decode cX5_stow 14 = .ok (.invokestatic 67, 3) := by decide +kernel
theorem dX5_stow_17 : decode cX5_stow 17 = .ok (.ifCond .eq 35, 3) := by decide +kernel
theorem dX5_stow_20 : decode cX5_stow 20 = .ok (.iload_n 3, 1) := by decide +kernel
theorem dX5_stow_21 : decode cX5_stow 21 = .ok (.iconst 0, 1) := by decide +kernel
theorem dX5_stow_22 : decode cX5_stow 22 = .ok (.bipush 12, 2) := by decide +kernel
theorem dX5_stow_24 : decode cX5_stow 24 = .ok (.invokestatic 67, 3) := by decide +kernel
theorem dX5_stow_27 : decode cX5_stow 27 = .ok (.ifCond .eq 25, 3) := by decide +kernel
theorem dX5_stow_30 : decode cX5_stow 30 = .ok (.iload 4, 2) := by decide +kernel
theorem dX5_stow_32 : decode cX5_stow 32 = .ok (.iconst 0, 1) := by decide +kernel
theorem dX5_stow_33 : decode cX5_stow 33 = .ok (.iconst 1, 1) := by decide +kernel
theorem dX5_stow_34 : decode cX5_stow 34 = .ok (.invokestatic 67, 3) := by decide +kernel
theorem dX5_stow_37 : decode cX5_stow 37 = .ok (.ifCond .ne 18, 3) := by decide +kernel
theorem dX5_stow_40 : decode cX5_stow 40 = .ok (.iload 4, 2) := by decide +kernel
theorem dX5_stow_42 : decode cX5_stow 42 = .ok (.bipush 10, 2) := by decide +kernel
theorem dX5_stow_44 : decode cX5_stow 44 = .ok (.bipush 13, 2) := by decide +kernel
theorem dX5_stow_46 : decode cX5_stow 46 = .ok (.invokestatic 67, 3) := by decide +kernel
theorem dX5_stow_49 : decode cX5_stow 49 = .ok (.ifCond .ne 6, 3) := by decide +kernel
theorem dX5_stow_52 : decode cX5_stow 52 = .ok (.bipush (-2), 2) := by decide +kernel
theorem dX5_stow_54 : decode cX5_stow 54 = .ok (.ireturn, 1) := by decide +kernel
theorem dX5_stow_55 : decode cX5_stow 55 = .ok (.aload_n 0, 1) := by decide +kernel
theorem dX5_stow_56 : decode cX5_stow 56 = .ok (.invokevirtual 177, 3) := by decide +kernel
theorem dX5_stow_59 : decode cX5_stow 59 = .ok (.aload_n 0, 1) := by decide +kernel
theorem dX5_stow_60 : decode cX5_stow 60 = .ok (.bipush (-9), 2) := by decide +kernel
theorem dX5_stow_62 : decode cX5_stow 62 = .ok (.putfield 196, 3) := by decide +kernel
theorem dX5_stow_65 : decode cX5_stow 65 = .ok (.iconst 0, 1) := by decide +kernel
theorem dX5_stow_66 : decode cX5_stow 66 = .ok (.istore 5, 2) := by decide +kernel
theorem dX5_stow_68 : decode cX5_stow 68 = .ok (.iload 5, 2) := by decide +kernel
theorem dX5_stow_70 : decode cX5_stow 70 = .ok (.sipush 10000, 3) := by decide +kernel
theorem dX5_stow_73 : decode cX5_stow 73 = .ok (.if_icmp .ge 26, 3) := by decide +kernel
theorem dX5_stow_76 : decode cX5_stow 76 = .ok (.iload 5, 2) := by decide +kernel
theorem dX5_stow_78 : decode cX5_stow 78 = .ok (.invokestatic 202, 3) := by decide +kernel
theorem dX5_stow_81 : decode cX5_stow 81 = .ok (.iload_n 3, 1) := by decide +kernel
theorem dX5_stow_82 : decode cX5_stow 82 = .ok (.if_icmp .ne 11, 3) := by decide +kernel
theorem dX5_stow_85 : decode cX5_stow 85 = .ok (.aload_n 0, 1) := by decide +kernel
theorem dX5_stow_86 : decode cX5_stow 86 = .ok (.iload_n 1, 1) := by decide +kernel
theorem dX5_stow_87 : decode cX5_stow 87 = .ok (.iload_n 2, 1) := by decide +kernel
theorem dX5_stow_88 : decode cX5_stow 88 = .ok (.iload 5, 2) := by decide +kernel
theorem dX5_stow_90 : decode cX5_stow 90 = .ok (.invokevirtual 205, 3) := by decide +kernel
theorem dX5_stow_93 : decode cX5_stow 93 = .ok (.iinc 5 1, 3) := by decide +kernel
theorem dX5_stow_96 : decode cX5_stow 96 = .ok (.goto (-28), 3) := by decide +kernel
theorem dX5_stow_99 : decode cX5_stow 99 = .ok (.iload 4, 2) := by decide +kernel
theorem dX5_stow_101 : decode cX5_stow 101 = .ok (.ifCond .ne 10, 3) := by decide +kernel
theorem dX5_stow_104 : decode cX5_stow 104 = .ok (.aload_n 0, 1) := by decide +kernel
theorem dX5_stow_105 : decode cX5_stow 105 = .ok (.getfield 196, 3) := by decide +kernel
theorem dX5_stow_108 : decode cX5_stow 108 = .ok (.goto 26, 3) := by decide +kernel
theorem dX5_stow_111 : decode cX5_stow 111 = .ok (.iload 4, 2) := by decide +kernel
theorem dX5_stow_113 : decode cX5_stow 113 = .ok (.iconst 1, 1) := by decide +kernel
theorem dX5_stow_114 : decode cX5_stow 114 = .ok (.if_icmp .ne 10, 3) := by decide +kernel
theorem dX5_stow_117 : decode cX5_stow 117 = .ok (.aload_n 0, 1) := by decide +kernel
theorem dX5_stow_118 : decode cX5_stow 118 = .ok (.getfield 199, 3) := by decide +kernel
theorem dX5_stow_121 : decode cX5_stow 121 = .ok (.goto 13, 3) := by decide +kernel
theorem dX5_stow_124 : decode cX5_stow 124 = .ok (.aload_n 0, 1) := by decide +kernel
theorem dX5_stow_125 : decode cX5_stow 125 = .ok (.getfield 49, 3) := by decide +kernel
theorem dX5_stow_128 : decode cX5_stow 128 = .ok (.iload 4, 2) := by decide +kernel
theorem dX5_stow_130 : decode cX5_stow 130 = .ok (.bipush 10, 2) := by decide +kernel
theorem dX5_stow_132 : decode cX5_stow 132 = .ok (.isub, 1) := by decide +kernel
theorem dX5_stow_133 : decode cX5_stow 133 = .ok (.iaload, 1) := by decide +kernel
theorem dX5_stow_134 : decode cX5_stow 134 = .ok (.ireturn, 1) := by decide +kernel
theorem dX5_size_0 : decode cX5_size 0 = .ok (.iconst 0, 1) := by decide +kernel
theorem dX5_size_1 : decode cX5_size 1 = .ok (.istore_n 1, 1) := by decide +kernel
theorem dX5_size_2 : decode cX5_size 2 = .ok (.iload_n 0, 1) := by decide +kernel
theorem dX5_size_3 : decode cX5_size 3 = .ok (.istore_n 2, 1) := by decide +kernel
theorem dX5_size_4 : decode cX5_size 4 = .ok (.iload_n 2, 1) := by decide +kernel
theorem dX5_size_5 : decode cX5_size 5 = .ok (.ifCond .le 16, 3) := by decide +kernel
theorem dX5_size_8 : decode cX5_size 8 = .ok (.iload_n 1, 1) := by decide +kernel
theorem dX5_size_9 : decode cX5_size 9 = .ok (.iload_n 2, 1) := by decide +kernel
theorem dX5_size_10 : decode cX5_size 10 = .ok (.iconst 1, 1) := by decide +kernel
theorem dX5_size_11 : decode cX5_size 11 = .ok (.iand, 1) := by decide +kernel
theorem dX5_size_12 : decode cX5_size 12 = .ok (.iadd, 1) := by decide +kernel
theorem dX5_size_13 : decode cX5_size 13 = .ok (.istore_n 1, 1) := by decide +kernel
theorem dX5_size_14 : decode cX5_size 14 = .ok (.iload_n 2, 1) := by decide +kernel
theorem dX5_size_15 : decode cX5_size 15 = .ok (.iconst 1, 1) := by decide +kernel
theorem dX5_size_16 : decode cX5_size 16 = .ok (.ishr, 1) := by decide +kernel
theorem dX5_size_17 : decode cX5_size 17 = .ok (.istore_n 2, 1) := by decide +kernel
theorem dX5_size_18 : decode cX5_size 18 = .ok (.goto (-14), 3) := by decide +kernel
theorem dX5_size_21 : decode cX5_size 21 = .ok (.iload_n 1, 1) := by decide +kernel
theorem dX5_size_22 : decode cX5_size 22 = .ok (.ireturn, 1) := by decide +kernel
theorem dX5_namesOf_0 : decode cX5_namesOf 0 = .ok (.iconst 0, 1) := by decide +kernel
theorem dX5_namesOf_1 : decode cX5_namesOf 1 = .ok (.istore_n 2, 1) := by decide +kernel
theorem dX5_namesOf_2 : decode cX5_namesOf 2 = .ok (.iconst 0, 1) := by decide +kernel
theorem dX5_namesOf_3 : decode cX5_namesOf 3 = .ok (.istore_n 3, 1) := by decide +kernel
theorem dX5_namesOf_4 : decode cX5_namesOf 4 = .ok (.iload_n 3, 1) := by decide +kernel
theorem dX5_namesOf_5 : decode cX5_namesOf 5 = .ok (.aload_n 0, 1) := by decide +kernel
theorem dX5_namesOf_6 : decode cX5_namesOf 6 = .ok (.getfield 71, 3) := by decide +kernel
theorem dX5_namesOf_9 : decode cX5_namesOf 9 = .ok (.if_icmp .ge 33, 3) := by decide +kernel
theorem dX5_namesOf_12 : decode cX5_namesOf 12 = .ok (.iload_n 2, 1) := by decide +kernel
theorem dX5_namesOf_13 : decode cX5_namesOf 13 = .ok (.iload_n 1, 1) := by decide +kernel
theorem dX5_namesOf_14 : decode cX5_namesOf 14 = .ok (.iload_n 3, 1) := by decide +kernel
theorem dX5_namesOf_15 : decode cX5_namesOf 15 = .ok (.ishr, 1) := by decide +kernel
theorem dX5_namesOf_16 : decode cX5_namesOf 16 = .ok (.iconst 1, 1) := by decide +kernel
theorem dX5_namesOf_17 : decode cX5_namesOf 17 = .ok (.iand, 1) := by decide +kernel
theorem dX5_namesOf_18 : decode cX5_namesOf 18 = .ok (.iconst 1, 1) := by decide +kernel
theorem dX5_namesOf_19 : decode cX5_namesOf 19 = .ok (.if_icmp .ne 14, 3) := by decide +kernel
theorem dX5_namesOf_22 : decode cX5_namesOf 22 = .ok (.iconst 1, 1) := by decide +kernel
theorem dX5_namesOf_23 : decode cX5_namesOf 23 = .ok (.aload_n 0, 1) := by decide +kernel
theorem dX5_namesOf_24 : decode cX5_namesOf 24 = .ok (.getfield 25, 3) := by decide +kernel
theorem dX5_namesOf_27 : decode cX5_namesOf 27 = .ok (.iload_n 3, 1) := by decide +kernel
theorem dX5_namesOf_28 : decode cX5_namesOf 28 = .ok (.iaload, 1) := by decide +kernel
theorem dX5_namesOf_29 : decode cX5_namesOf 29 = .ok (.ishl, 1) := by decide +kernel
theorem dX5_namesOf_30 : decode cX5_namesOf 30 = .ok (.goto 4, 3) := by decide +kernel
theorem dX5_namesOf_33 : decode cX5_namesOf 33 = .ok (.iconst 0, 1) := by decide +kernel
theorem dX5_namesOf_34 : decode cX5_namesOf 34 = .ok (.ior, 1) := by decide +kernel
theorem dX5_namesOf_35 : decode cX5_namesOf 35 = .ok (.istore_n 2, 1) := by decide +kernel
theorem dX5_namesOf_36 : decode cX5_namesOf 36 = .ok (.iinc 3 1, 3) := by decide +kernel
theorem dX5_namesOf_39 : decode cX5_namesOf 39 = .ok (.goto (-35), 3) := by decide +kernel
theorem dX5_namesOf_42 : decode cX5_namesOf 42 = .ok (.iload_n 2, 1) := by decide +kernel
theorem dX5_namesOf_43 : decode cX5_namesOf 43 = .ok (.ireturn, 1) := by decide +kernel
theorem dX5_cover_0 : decode cX5_cover 0 = .ok (.aload_n 0, 1) := by decide +kernel
theorem dX5_cover_1 : decode cX5_cover 1 = .ok (.getfield 71, 3) := by decide +kernel
theorem dX5_cover_4 : decode cX5_cover 4 = .ok (.ifCond .ne 6, 3) := by decide +kernel
theorem dX5_cover_7 : decode cX5_cover 7 = .ok (.bipush (-3), 2) := by decide +kernel
theorem dX5_cover_9 : decode cX5_cover 9 = .ok (.ireturn, 1) := by decide +kernel
theorem dX5_cover_10 : decode cX5_cover 10 = .ok (.iconst 1, 1) := by decide +kernel
theorem dX5_cover_11 : decode cX5_cover 11 = .ok (.aload_n 0, 1) := by decide +kernel
theorem dX5_cover_12 : decode cX5_cover 12 = .ok (.getfield 71, 3) := by decide +kernel
theorem dX5_cover_15 : decode cX5_cover 15 = .ok (.ishl, 1) := by decide +kernel
theorem dX5_cover_16 : decode cX5_cover 16 = .ok (.iconst 1, 1) := by decide +kernel
theorem dX5_cover_17 : decode cX5_cover 17 = .ok (.isub, 1) := by decide +kernel
theorem dX5_cover_18 : decode cX5_cover 18 = .ok (.istore_n 1, 1) := by decide +kernel
theorem dX5_cover_19 : decode cX5_cover 19 = .ok (.iload_n 1, 1) := by decide +kernel
theorem dX5_cover_20 : decode cX5_cover 20 = .ok (.istore_n 2, 1) := by decide +kernel
theorem dX5_cover_21 : decode cX5_cover 21 = .ok (.iload_n 1, 1) := by decide +kernel
theorem dX5_cover_22 : decode cX5_cover 22 = .ok (.istore_n 3, 1) := by decide +kernel
theorem dX5_cover_23 : decode cX5_cover 23 = .ok (.iload_n 3, 1) := by decide +kernel
theorem dX5_cover_24 : decode cX5_cover 24 = .ok (.ifCond .lt 35, 3) := by decide +kernel
theorem dX5_cover_27 : decode cX5_cover 27 = .ok (.aload_n 0, 1) := by decide +kernel
theorem dX5_cover_28 : decode cX5_cover 28 = .ok (.iload_n 3, 1) := by decide +kernel
theorem dX5_cover_29 : decode cX5_cover 29 = .ok (.invokevirtual 209, 3) := by decide +kernel
theorem dX5_cover_32 : decode cX5_cover 32 = .ok (.aload_n 0, 1) := by decide +kernel
theorem dX5_cover_33 : decode cX5_cover 33 = .ok (.iload_n 1, 1) := by decide +kernel
theorem dX5_cover_34 : decode cX5_cover 34 = .ok (.invokevirtual 209, 3) := by decide +kernel
theorem dX5_cover_37 : decode cX5_cover 37 = .ok (.if_icmp .ne 16, 3) := by decide +kernel
theorem dX5_cover_40 : decode cX5_cover 40 = .ok (.iload_n 3, 1) := by decide +kernel
theorem dX5_cover_41 : decode cX5_cover 41 = .ok (.invokestatic 212, 3) := by decide +kernel
theorem dX5_cover_44 : decode cX5_cover 44 = .ok (.iload_n 2, 1) := by decide +kernel
theorem dX5_cover_45 : decode cX5_cover 45 = .ok (.invokestatic 212, 3) := by decide +kernel
theorem dX5_cover_48 : decode cX5_cover 48 = .ok (.if_icmp .gt 5, 3) := by decide +kernel
theorem dX5_cover_51 : decode cX5_cover 51 = .ok (.iload_n 3, 1) := by decide +kernel
theorem dX5_cover_52 : decode cX5_cover 52 = .ok (.istore_n 2, 1) := by decide +kernel
theorem dX5_cover_53 : decode cX5_cover 53 = .ok (.iinc 3 (-1), 3) := by decide +kernel
theorem dX5_cover_56 : decode cX5_cover 56 = .ok (.goto (-33), 3) := by decide +kernel
theorem dX5_cover_59 : decode cX5_cover 59 = .ok (.iload_n 2, 1) := by decide +kernel
theorem dX5_cover_60 : decode cX5_cover 60 = .ok (.ireturn, 1) := by decide +kernel
end
section
theorem dX5_reading_0 : decode cX5_reading 0 = .ok (.aload_n 0, 1) := by decide +kernel
theorem dX5_reading_1 : decode cX5_reading 1 = .ok (.iload_n 1, 1) := by decide +kernel
theorem dX5_reading_2 : decode cX5_reading 2 = .ok (.invokevirtual 127, 3) := by decide +kernel
theorem dX5_reading_5 : decode cX5_reading 5 = .ok (.ifCond .eq 11, 3) := by decide +kernel
theorem dX5_reading_8 : decode cX5_reading 8 = .ok (.aload_n 0, 1) := by decide +kernel
theorem dX5_reading_9 : decode cX5_reading 9 = .ok (.iload_n 2, 1) := by decide +kernel
theorem dX5_reading_10 : decode cX5_reading 10 = .ok (.invokevirtual 142, 3) := by decide +kernel
theorem dX5_reading_13 : decode cX5_reading 13 = .ok (.ifCond .ne 5, 3) := by decide +kernel
theorem dX5_reading_16 : decode cX5_reading 16 = .ok (.iconst (-1), 1) := by decide +kernel
theorem dX5_reading_17 : decode cX5_reading 17 = .ok (.ireturn, 1) := by decide +kernel
theorem dX5_reading_18 : decode cX5_reading 18 = .ok (.iload_n 3, 1) := by decide +kernel
theorem dX5_reading_19 : decode cX5_reading 19 = .ok (.iconst 0, 1) := by decide +kernel
theorem dX5_reading_20 : decode cX5_reading 20 = .ok (.iconst 1, 1) := by decide +kernel
theorem dX5_reading_21 : decode cX5_reading 21 = .ok (.invokestatic 67, 3) := by decide +kernel
theorem dX5_reading_24 : decode cX5_reading 24 = .ok (.ifCond .ne 6, 3) := by decide +kernel
theorem dX5_reading_27 : decode cX5_reading 27 = .ok (.bipush (-2), 2) := by decide +kernel
theorem dX5_reading_29 : decode cX5_reading 29 = .ok (.ireturn, 1) := by decide +kernel
theorem dX5_reading_30 : decode cX5_reading 30 = .ok (.aload_n 0, 1) := by decide +kernel
theorem dX5_reading_31 : decode cX5_reading 31 = .ok (.getfield 110, 3) := by decide +kernel
theorem dX5_reading_34 : decode cX5_reading 34 = .ok (.bipush 8, 2) := by decide +kernel
theorem dX5_reading_36 : decode cX5_reading 36 = .ok (.if_icmp .ne 6, 3) := by decide +kernel
theorem dX5_reading_39 : decode cX5_reading 39 = .ok (.bipush (-4), 2) := by decide +kernel
theorem dX5_reading_41 : decode cX5_reading 41 = .ok (.ireturn, 1) := by decide +kernel
theorem dX5_reading_42 : decode cX5_reading 42 = .ok (.aload_n 0, 1) := by decide +kernel
theorem dX5_reading_43 : decode cX5_reading 43 = .ok (.getfield 52, 3) := by decide +kernel
theorem dX5_reading_46 : decode cX5_reading 46 = .ok (.aload_n 0, 1) := by decide +kernel
theorem dX5_reading_47 : decode cX5_reading 47 = .ok (.getfield 110, 3) := by decide +kernel
theorem dX5_reading_50 : decode cX5_reading 50 = .ok (.iload_n 1, 1) := by decide +kernel
theorem dX5_reading_51 : decode cX5_reading 51 = .ok (.iastore, 1) := by decide +kernel
theorem dX5_reading_52 : decode cX5_reading 52 = .ok (.aload_n 0, 1) := by decide +kernel
theorem dX5_reading_53 : decode cX5_reading 53 = .ok (.getfield 55, 3) := by decide +kernel
theorem dX5_reading_56 : decode cX5_reading 56 = .ok (.aload_n 0, 1) := by decide +kernel
theorem dX5_reading_57 : decode cX5_reading 57 = .ok (.getfield 110, 3) := by decide +kernel
theorem dX5_reading_60 : decode cX5_reading 60 = .ok (.iload_n 2, 1) := by decide +kernel
theorem dX5_reading_61 : decode cX5_reading 61 = .ok (.iastore, 1) := by decide +kernel
theorem dX5_reading_62 : decode cX5_reading 62 = .ok (.aload_n 0, 1) := by decide +kernel
theorem dX5_reading_63 : decode cX5_reading 63 = .ok (.getfield 58, 3) := by decide +kernel
theorem dX5_reading_66 : decode cX5_reading 66 = .ok (.aload_n 0, 1) := by decide +kernel
theorem dX5_reading_67 : decode cX5_reading 67 = .ok (.getfield 110, 3) := by decide +kernel
theorem dX5_reading_70 : decode cX5_reading 70 = .ok (.iload_n 3, 1) := by decide +kernel
theorem dX5_reading_71 : decode cX5_reading 71 = .ok (.iastore, 1) := by decide +kernel
theorem dX5_reading_72 : decode cX5_reading 72 = .ok (.aload_n 0, 1) := by decide +kernel
theorem dX5_reading_73 : decode cX5_reading 73 = .ok (.dup, 1) := by decide +kernel
theorem dX5_reading_74 : decode cX5_reading 74 = .ok (.getfield 110, 3) := by decide +kernel
theorem dX5_reading_77 : decode cX5_reading 77 = .ok (.iconst 1, 1) := by decide +kernel
theorem dX5_reading_78 : decode cX5_reading 78 = .ok (.iadd, 1) := by decide +kernel
theorem dX5_reading_79 : decode cX5_reading 79 = .ok (.putfield 110, 3) := by decide +kernel
theorem dX5_reading_82 : decode cX5_reading 82 = .ok (.aload_n 0, 1) := by decide +kernel
theorem dX5_reading_83 : decode cX5_reading 83 = .ok (.getfield 110, 3) := by decide +kernel
theorem dX5_reading_86 : decode cX5_reading 86 = .ok (.iconst 1, 1) := by decide +kernel
theorem dX5_reading_87 : decode cX5_reading 87 = .ok (.isub, 1) := by decide +kernel
theorem dX5_reading_88 : decode cX5_reading 88 = .ok (.ireturn, 1) := by decide +kernel
theorem dX5_back_0 : decode cX5_back 0 = .ok (.iload_n 1, 1) := by decide +kernel
theorem dX5_back_1 : decode cX5_back 1 = .ok (.iconst 0, 1) := by decide +kernel
theorem dX5_back_2 : decode cX5_back 2 = .ok (.aload_n 0, 1) := by decide +kernel
theorem dX5_back_3 : decode cX5_back 3 = .ok (.getfield 110, 3) := by decide +kernel
theorem dX5_back_6 : decode cX5_back 6 = .ok (.invokestatic 67, 3) := by decide +kernel
theorem dX5_back_9 : decode cX5_back 9 = .ok (.ifCond .ne 6, 3) := by decide +kernel
theorem dX5_back_12 : decode cX5_back 12 = .ok (.bipush (-2), 2) := by decide +kernel
theorem dX5_back_14 : decode cX5_back 14 = .ok (.ireturn, 1) := by decide +kernel
theorem dX5_back_15 : decode cX5_back 15 = .ok (.aload_n 0, 1) := by decide +kernel
theorem dX5_back_16 : decode cX5_back 16 = .ok (.dup, 1) := by decide +kernel
theorem dX5_back_17 : decode cX5_back 17 = .ok (.getfield 110, 3) := by decide +kernel
theorem dX5_back_20 : decode cX5_back 20 = .ok (.iload_n 1, 1) := by decide +kernel
theorem dX5_back_21 : decode cX5_back 21 = .ok (.isub, 1) := by decide +kernel
theorem dX5_back_22 : decode cX5_back 22 = .ok (.putfield 110, 3) := by decide +kernel
theorem dX5_back_25 : decode cX5_back 25 = .ok (.aload_n 0, 1) := by decide +kernel
theorem dX5_back_26 : decode cX5_back 26 = .ok (.getfield 110, 3) := by decide +kernel
theorem dX5_back_29 : decode cX5_back 29 = .ok (.ireturn, 1) := by decide +kernel
theorem dX5_areSo_0 : decode cX5_areSo 0 = .ok (.iconst 0, 1) := by decide +kernel
theorem dX5_areSo_1 : decode cX5_areSo 1 = .ok (.istore_n 1, 1) := by decide +kernel
theorem dX5_areSo_2 : decode cX5_areSo 2 = .ok (.iload_n 1, 1) := by decide +kernel
theorem dX5_areSo_3 : decode cX5_areSo 3 = .ok (.aload_n 0, 1) := by decide +kernel
theorem dX5_areSo_4 : decode cX5_areSo 4 = .ok (.getfield 110, 3) := by decide +kernel
theorem dX5_areSo_7 : decode cX5_areSo 7 = .ok (.if_icmp .ge 51, 3) := by decide +kernel
theorem dX5_areSo_10 : decode cX5_areSo 10 = .ok (.aload_n 0, 1) := by decide +kernel
theorem dX5_areSo_11 : decode cX5_areSo 11 = .ok (.getfield 19, 3) := by decide +kernel
theorem dX5_areSo_14 : decode cX5_areSo 14 = .ok (.aload_n 0, 1) := by decide +kernel
theorem dX5_areSo_15 : decode cX5_areSo 15 = .ok (.getfield 55, 3) := by decide +kernel
theorem dX5_areSo_18 : decode cX5_areSo 18 = .ok (.iload_n 1, 1) := by decide +kernel
theorem dX5_areSo_19 : decode cX5_areSo 19 = .ok (.iaload, 1) := by decide +kernel
theorem dX5_areSo_20 : decode cX5_areSo 20 = .ok (.iaload, 1) := by decide +kernel
theorem dX5_areSo_21 : decode cX5_areSo 21 = .ok (.aload_n 0, 1) := by decide +kernel
theorem dX5_areSo_22 : decode cX5_areSo 22 = .ok (.aload_n 0, 1) := by decide +kernel
theorem dX5_areSo_23 : decode cX5_areSo 23 = .ok (.getfield 52, 3) := by decide +kernel
theorem dX5_areSo_26 : decode cX5_areSo 26 = .ok (.iload_n 1, 1) := by decide +kernel
theorem dX5_areSo_27 : decode cX5_areSo 27 = .ok (.iaload, 1) := by decide +kernel
theorem dX5_areSo_28 : decode cX5_areSo 28 = .ok (.invokevirtual 130, 3) := by decide +kernel
theorem dX5_areSo_31 : decode cX5_areSo 31 = .ok (.if_icmp .le 7, 3) := by decide +kernel
theorem dX5_areSo_34 : decode cX5_areSo 34 = .ok (.iconst 1, 1) := by decide +kernel
theorem dX5_areSo_35 : decode cX5_areSo 35 = .ok (.goto 4, 3) := by decide +kernel
theorem dX5_areSo_38 : decode cX5_areSo 38 = .ok (.iconst 0, 1) := by decide +kernel
theorem dX5_areSo_39 : decode cX5_areSo 39 = .ok (.istore_n 2, 1) := by decide +kernel
theorem dX5_areSo_40 : decode cX5_areSo 40 = .ok (.iload_n 2, 1) := by decide +kernel
theorem dX5_areSo_41 : decode cX5_areSo 41 = .ok (.aload_n 0, 1) := by decide +kernel
theorem dX5_areSo_42 : decode cX5_areSo 42 = .ok (.getfield 58, 3) := by decide +kernel
theorem dX5_areSo_45 : decode cX5_areSo 45 = .ok (.iload_n 1, 1) := by decide +kernel
theorem dX5_areSo_46 : decode cX5_areSo 46 = .ok (.iaload, 1) := by decide +kernel
theorem dX5_areSo_47 : decode cX5_areSo 47 = .ok (.if_icmp .eq 5, 3) := by decide +kernel
theorem dX5_areSo_50 : decode cX5_areSo 50 = .ok (.iconst 0, 1) := by decide +kernel
theorem dX5_areSo_51 : decode cX5_areSo 51 = .ok (.ireturn, 1) := by decide +kernel
theorem dX5_areSo_52 : decode cX5_areSo 52 = .ok (.iinc 1 1, 3) := by decide +kernel
theorem dX5_areSo_55 : decode cX5_areSo 55 = .ok (.goto (-53), 3) := by decide +kernel
theorem dX5_areSo_58 : decode cX5_areSo 58 = .ok (.iconst 1, 1) := by decide +kernel
theorem dX5_areSo_59 : decode cX5_areSo 59 = .ok (.ireturn, 1) := by decide +kernel
theorem dX5_strengths_0 : decode cX5_strengths 0 = .ok (.aload_n 0, 1) := by decide +kernel
theorem dX5_strengths_1 : decode cX5_strengths 1 = .ok (.iload_n 1, 1) := by decide +kernel
theorem dX5_strengths_2 : decode cX5_strengths 2 = .ok (.invokevirtual 127, 3) := by decide +kernel
theorem dX5_strengths_5 : decode cX5_strengths 5 = .ok (.ifCond .ne 5, 3) := by decide +kernel
theorem dX5_strengths_8 : decode cX5_strengths 8 = .ok (.iconst (-1), 1) := by decide +kernel
theorem dX5_strengths_9 : decode cX5_strengths 9 = .ok (.ireturn, 1) := by decide +kernel
theorem dX5_strengths_10 : decode cX5_strengths 10 = .ok (.aload_n 0, 1) := by decide +kernel
theorem dX5_strengths_11 : decode cX5_strengths 11 = .ok (.getfield 28, 3) := by decide +kernel
theorem dX5_strengths_14 : decode cX5_strengths 14 = .ok (.iload_n 1, 1) := by decide +kernel
theorem dX5_strengths_15 : decode cX5_strengths 15 = .ok (.iaload, 1) := by decide +kernel
theorem dX5_strengths_16 : decode cX5_strengths 16 = .ok (.istore_n 2, 1) := by decide +kernel
theorem dX5_strengths_17 : decode cX5_strengths 17 = .ok (.iconst 0, 1) := by decide +kernel
theorem dX5_strengths_18 : decode cX5_strengths 18 = .ok (.istore_n 3, 1) := by decide +kernel
theorem dX5_strengths_19 : decode cX5_strengths 19 = .ok (.iconst 0, 1) := by decide +kernel
theorem dX5_strengths_20 : decode cX5_strengths 20 = .ok (.istore 4, 2) := by decide +kernel
theorem dX5_strengths_22 : decode cX5_strengths 22 = .ok (.iload 4, 2) := by decide +kernel
theorem dX5_strengths_24 : decode cX5_strengths 24 = .ok (.bipush 9, 2) := by decide +kernel
theorem dX5_strengths_26 : decode cX5_strengths 26 = .ok (.if_icmp .gt 35, 3) := by decide +kernel
theorem dX5_strengths_29 : decode cX5_strengths 29 = .ok (.aload_n 0, 1) := by decide +kernel
theorem dX5_strengths_30 : decode cX5_strengths 30 = .ok (.getfield 28, 3) := by decide +kernel
theorem dX5_strengths_33 : decode cX5_strengths 33 = .ok (.iload_n 1, 1) := by decide +kernel
theorem dX5_strengths_34 : decode cX5_strengths 34 = .ok (.iload 4, 2) := by decide +kernel
theorem dX5_strengths_36 : decode cX5_strengths 36 = .ok (.iastore, 1) := by decide +kernel
theorem dX5_strengths_37 : decode cX5_strengths 37 = .ok (.iload_n 3, 1) := by decide +kernel
theorem dX5_strengths_38 : decode cX5_strengths 38 = .ok (.aload_n 0, 1) := by decide +kernel
theorem dX5_strengths_39 : decode cX5_strengths 39 = .ok (.invokevirtual 215, 3) := by decide +kernel
theorem dX5_strengths_42 : decode cX5_strengths 42 = .ok (.ifCond .eq 10, 3) := by decide +kernel
theorem dX5_strengths_45 : decode cX5_strengths 45 = .ok (.iconst 1, 1) := by decide +kernel
theorem dX5_strengths_46 : decode cX5_strengths 46 = .ok (.iload 4, 2) := by decide +kernel
theorem dX5_strengths_48 : decode cX5_strengths 48 = .ok (.ishl, 1) := by decide +kernel
theorem dX5_strengths_49 : decode cX5_strengths 49 = .ok (.goto 4, 3) := by decide +kernel
theorem dX5_strengths_52 : decode cX5_strengths 52 = .ok (.iconst 0, 1) := by decide +kernel
theorem dX5_strengths_53 : decode cX5_strengths 53 = .ok (.ior, 1) := by decide +kernel
theorem dX5_strengths_54 : decode cX5_strengths 54 = .ok (.istore_n 3, 1) := by decide +kernel
theorem dX5_strengths_55 : decode cX5_strengths 55 = .ok (.iinc 4 1, 3) := by decide +kernel
theorem dX5_strengths_58 : decode cX5_strengths 58 = .ok (.goto (-36), 3) := by decide +kernel
theorem dX5_strengths_61 : decode cX5_strengths 61 = .ok (.aload_n 0, 1) := by decide +kernel
theorem dX5_strengths_62 : decode cX5_strengths 62 = .ok (.getfield 28, 3) := by decide +kernel
theorem dX5_strengths_65 : decode cX5_strengths 65 = .ok (.iload_n 1, 1) := by decide +kernel
theorem dX5_strengths_66 : decode cX5_strengths 66 = .ok (.iload_n 2, 1) := by decide +kernel
theorem dX5_strengths_67 : decode cX5_strengths 67 = .ok (.iastore, 1) := by decide +kernel
theorem dX5_strengths_68 : decode cX5_strengths 68 = .ok (.iload_n 3, 1) := by decide +kernel
theorem dX5_strengths_69 : decode cX5_strengths 69 = .ok (.ireturn, 1) := by decide +kernel
theorem dX5_kinds_0 : decode cX5_kinds 0 = .ok (.aload_n 0, 1) := by decide +kernel
theorem dX5_kinds_1 : decode cX5_kinds 1 = .ok (.iload_n 1, 1) := by decide +kernel
theorem dX5_kinds_2 : decode cX5_kinds 2 = .ok (.invokevirtual 127, 3) := by decide +kernel
theorem dX5_kinds_5 : decode cX5_kinds 5 = .ok (.ifCond .ne 5, 3) := by decide +kernel
theorem dX5_kinds_8 : decode cX5_kinds 8 = .ok (.iconst (-1), 1) := by decide +kernel
theorem dX5_kinds_9 : decode cX5_kinds 9 = .ok (.ireturn, 1) := by decide +kernel
theorem dX5_kinds_10 : decode cX5_kinds 10 = .ok (.aload_n 0, 1) := by decide +kernel
theorem dX5_kinds_11 : decode cX5_kinds 11 = .ok (.getfield 22, 3) := by decide +kernel
theorem dX5_kinds_14 : decode cX5_kinds 14 = .ok (.iload_n 1, 1) := by decide +kernel
theorem dX5_kinds_15 : decode cX5_kinds 15 = .ok (.iaload, 1) := by decide +kernel
theorem dX5_kinds_16 : decode cX5_kinds 16 = .ok (.istore_n 2, 1) := by decide +kernel
theorem dX5_kinds_17 : decode cX5_kinds 17 = .ok (.iconst 0, 1) := by decide +kernel
theorem dX5_kinds_18 : decode cX5_kinds 18 = .ok (.istore_n 3, 1) := by decide +kernel
theorem dX5_kinds_19 : decode cX5_kinds 19 = .ok (.iconst 0, 1) := by decide +kernel
theorem dX5_kinds_20 : decode cX5_kinds 20 = .ok (.istore 4, 2) := by decide +kernel
theorem dX5_kinds_22 : decode cX5_kinds 22 = .ok (.iload 4, 2) := by decide +kernel
theorem dX5_kinds_24 : decode cX5_kinds 24 = .ok (.iconst 3, 1) := by decide +kernel
theorem dX5_kinds_25 : decode cX5_kinds 25 = .ok (.if_icmp .ge 35, 3) := by decide +kernel
theorem dX5_kinds_28 : decode cX5_kinds 28 = .ok (.aload_n 0, 1) := by decide +kernel
theorem dX5_kinds_29 : decode cX5_kinds 29 = .ok (.getfield 22, 3) := by decide +kernel
theorem dX5_kinds_32 : decode cX5_kinds 32 = .ok (.iload_n 1, 1) := by decide +kernel
theorem dX5_kinds_33 : decode cX5_kinds 33 = .ok (.iload 4, 2) := by decide +kernel
theorem dX5_kinds_35 : decode cX5_kinds 35 = .ok (.iastore, 1) := by decide +kernel
theorem dX5_kinds_36 : decode cX5_kinds 36 = .ok (.iload_n 3, 1) := by decide +kernel
theorem dX5_kinds_37 : decode cX5_kinds 37 = .ok (.aload_n 0, 1) := by decide +kernel
theorem dX5_kinds_38 : decode cX5_kinds 38 = .ok (.invokevirtual 215, 3) := by decide +kernel
theorem dX5_kinds_41 : decode cX5_kinds 41 = .ok (.ifCond .eq 10, 3) := by decide +kernel
theorem dX5_kinds_44 : decode cX5_kinds 44 = .ok (.iconst 1, 1) := by decide +kernel
theorem dX5_kinds_45 : decode cX5_kinds 45 = .ok (.iload 4, 2) := by decide +kernel
theorem dX5_kinds_47 : decode cX5_kinds 47 = .ok (.ishl, 1) := by decide +kernel
theorem dX5_kinds_48 : decode cX5_kinds 48 = .ok (.goto 4, 3) := by decide +kernel
theorem dX5_kinds_51 : decode cX5_kinds 51 = .ok (.iconst 0, 1) := by decide +kernel
theorem dX5_kinds_52 : decode cX5_kinds 52 = .ok (.ior, 1) := by decide +kernel
theorem dX5_kinds_53 : decode cX5_kinds 53 = .ok (.istore_n 3, 1) := by decide +kernel
theorem dX5_kinds_54 : decode cX5_kinds 54 = .ok (.iinc 4 1, 3) := by decide +kernel
theorem dX5_kinds_57 : decode cX5_kinds 57 = .ok (.goto (-35), 3) := by decide +kernel
theorem dX5_kinds_60 : decode cX5_kinds 60 = .ok (.aload_n 0, 1) := by decide +kernel
theorem dX5_kinds_61 : decode cX5_kinds 61 = .ok (.getfield 22, 3) := by decide +kernel
theorem dX5_kinds_64 : decode cX5_kinds 64 = .ok (.iload_n 1, 1) := by decide +kernel
theorem dX5_kinds_65 : decode cX5_kinds 65 = .ok (.iload_n 2, 1) := by decide +kernel
theorem dX5_kinds_66 : decode cX5_kinds 66 = .ok (.iastore, 1) := by decide +kernel
theorem dX5_kinds_67 : decode cX5_kinds 67 = .ok (.iload_n 3, 1) := by decide +kernel
theorem dX5_kinds_68 : decode cX5_kinds 68 = .ok (.ireturn, 1) := by decide +kernel
theorem dX5_isLossOf_0 : decode cX5_isLossOf 0 = .ok (.aload_n 0, 1) := by decide +kernel
theorem dX5_isLossOf_1 : decode cX5_isLossOf 1 = .ok (.iload_n 1, 1) := by decide +kernel
theorem dX5_isLossOf_2 : decode cX5_isLossOf 2 = .ok (.iload_n 2, 1) := by decide +kernel
theorem dX5_isLossOf_3 : decode cX5_isLossOf 3 = .ok (.invokevirtual 193, 3) := by decide +kernel
theorem dX5_isLossOf_6 : decode cX5_isLossOf 6 = .ok (.pop, 1) := by decide +kernel
theorem dX5_isLossOf_7 : decode cX5_isLossOf 7 = .ok (.iconst 1, 1) := by decide +kernel
theorem dX5_isLossOf_8 : decode cX5_isLossOf 8 = .ok (.istore 4, 2) := by decide +kernel
theorem dX5_isLossOf_10 : decode cX5_isLossOf 10 = .ok (.iconst 0, 1) := by decide +kernel
theorem dX5_isLossOf_11 : decode cX5_isLossOf 11 = .ok (.istore 5, 2) := by decide +kernel
theorem dX5_isLossOf_13 : decode cX5_isLossOf 13 = .ok (.iload 5, 2) := by decide +kernel
theorem dX5_isLossOf_15 : decode cX5_isLossOf 15 = .ok (.iconst 4, 1) := by decide +kernel
theorem dX5_isLossOf_16 : decode cX5_isLossOf 16 = .ok (.if_icmp .ge 56, 3) := by decide +kernel
theorem dX5_isLossOf_19 : decode cX5_isLossOf 19 = .ok (.iload 4, 2) := by decide +kernel
theorem dX5_isLossOf_21 : decode cX5_isLossOf 21 = .ok (.ifCond .eq 42, 3) := by decide +kernel
theorem dX5_isLossOf_24 : decode cX5_isLossOf 24 = .ok (.aload_n 0, 1) := by decide +kernel
theorem dX5_isLossOf_25 : decode cX5_isLossOf 25 = .ok (.getfield 46, 3) := by decide +kernel
theorem dX5_isLossOf_28 : decode cX5_isLossOf 28 = .ok (.iconst 4, 1) := by decide +kernel
theorem dX5_isLossOf_29 : decode cX5_isLossOf 29 = .ok (.iload_n 1, 1) := by decide +kernel
theorem dX5_isLossOf_30 : decode cX5_isLossOf 30 = .ok (.imul, 1) := by decide +kernel
theorem dX5_isLossOf_31 : decode cX5_isLossOf 31 = .ok (.iload 5, 2) := by decide +kernel
theorem dX5_isLossOf_33 : decode cX5_isLossOf 33 = .ok (.iadd, 1) := by decide +kernel
theorem dX5_isLossOf_34 : decode cX5_isLossOf 34 = .ok (.iaload, 1) := by decide +kernel
theorem dX5_isLossOf_35 : decode cX5_isLossOf 35 = .ok (.aload_n 0, 1) := by decide +kernel
theorem dX5_isLossOf_36 : decode cX5_isLossOf 36 = .ok (.getfield 34, 3) := by decide +kernel
theorem dX5_isLossOf_39 : decode cX5_isLossOf 39 = .ok (.iconst 4, 1) := by decide +kernel
theorem dX5_isLossOf_40 : decode cX5_isLossOf 40 = .ok (.iload_n 1, 1) := by decide +kernel
theorem dX5_isLossOf_41 : decode cX5_isLossOf 41 = .ok (.imul, 1) := by decide +kernel
theorem dX5_isLossOf_42 : decode cX5_isLossOf 42 = .ok (.iload 5, 2) := by decide +kernel
theorem dX5_isLossOf_44 : decode cX5_isLossOf 44 = .ok (.iadd, 1) := by decide +kernel
theorem dX5_isLossOf_45 : decode cX5_isLossOf 45 = .ok (.iaload, 1) := by decide +kernel
theorem dX5_isLossOf_46 : decode cX5_isLossOf 46 = .ok (.isub, 1) := by decide +kernel
theorem dX5_isLossOf_47 : decode cX5_isLossOf 47 = .ok (.aload_n 0, 1) := by decide +kernel
theorem dX5_isLossOf_48 : decode cX5_isLossOf 48 = .ok (.getfield 16, 3) := by decide +kernel
theorem dX5_isLossOf_51 : decode cX5_isLossOf 51 = .ok (.iload_n 3, 1) := by decide +kernel
theorem dX5_isLossOf_52 : decode cX5_isLossOf 52 = .ok (.iload 5, 2) := by decide +kernel
theorem dX5_isLossOf_54 : decode cX5_isLossOf 54 = .ok (.iadd, 1) := by decide +kernel
theorem dX5_isLossOf_55 : decode cX5_isLossOf 55 = .ok (.iaload, 1) := by decide +kernel
theorem dX5_isLossOf_56 : decode cX5_isLossOf 56 = .ok (.if_icmp .ne 7, 3) := by decide +kernel
theorem dX5_isLossOf_59 : decode cX5_isLossOf 59 = .ok (.iconst 1, 1) := by decide +kernel
theorem dX5_isLossOf_60 : decode cX5_isLossOf 60 = .ok (.goto 4, 3) := by decide +kernel
theorem dX5_isLossOf_63 : decode cX5_isLossOf 63 = .ok (.iconst 0, 1) := by decide +kernel
theorem dX5_isLossOf_64 : decode cX5_isLossOf 64 = .ok (.istore 4, 2) := by decide +kernel
theorem dX5_isLossOf_66 : decode cX5_isLossOf 66 = .ok (.iinc 5 1, 3) := by decide +kernel
theorem dX5_isLossOf_69 : decode cX5_isLossOf 69 = .ok (.goto (-56), 3) := by decide +kernel
theorem dX5_isLossOf_72 : decode cX5_isLossOf 72 = .ok (.aload_n 0, 1) := by decide +kernel
theorem dX5_isLossOf_73 : decode cX5_isLossOf 73 = .ok (.invokevirtual 186, 3) := by decide +kernel
theorem dX5_isLossOf_76 : decode cX5_isLossOf 76 = .ok (.iload 4, 2) := by decide +kernel
theorem dX5_isLossOf_78 : decode cX5_isLossOf 78 = .ok (.ireturn, 1) := by decide +kernel
theorem dX5_names_0 : decode cX5_names 0 = .ok (.aload_n 0, 1) := by decide +kernel
theorem dX5_names_1 : decode cX5_names 1 = .ok (.iconst 0, 1) := by decide +kernel
theorem dX5_names_2 : decode cX5_names 2 = .ok (.putfield 61, 3) := by decide +kernel
theorem dX5_names_5 : decode cX5_names 5 = .ok (.iload_n 1, 1) := by decide +kernel
theorem dX5_names_6 : decode cX5_names 6 = .ok (.invokestatic 80, 3) := by decide +kernel
theorem dX5_names_9 : decode cX5_names 9 = .ok (.ifCond .eq 12, 3) := by decide +kernel
theorem dX5_names_12 : decode cX5_names 12 = .ok (.aload_n 0, 1) := by decide +kernel
theorem dX5_names_13 : decode cX5_names 13 = .ok (.iload 4, 2) := by decide +kernel
theorem dX5_names_15 : decode cX5_names 15 = .ok (.invokevirtual 127, 3) := by decide +kernel
theorem dX5_names_18 : decode cX5_names 18 = .ok (.ifCond .ne 5, 3) := by decide +kernel
theorem dX5_names_21 : decode cX5_names 21 = .ok (.iconst (-1), 1) := by decide +kernel
theorem dX5_names_22 : decode cX5_names 22 = .ok (.ireturn, 1) := by decide +kernel
theorem dX5_names_23 : decode cX5_names 23 = .ok (.iload_n 2, 1) := by decide +kernel
theorem dX5_names_24 : decode cX5_names 24 = .ok (.invokestatic 84, 3) := by decide +kernel
theorem dX5_names_27 : decode cX5_names 27 = .ok (.ifCond .eq 14, 3) := by decide +kernel
theorem dX5_names_30 : decode cX5_names 30 = .ok (.iload 5, 2) := by decide +kernel
theorem dX5_names_32 : decode cX5_names 32 = .ok (.iconst 0, 1) := by decide +kernel
theorem dX5_names_33 : decode cX5_names 33 = .ok (.bipush 30, 2) := by decide +kernel
theorem dX5_names_35 : decode cX5_names 35 = .ok (.invokestatic 67, 3) := by decide +kernel
theorem dX5_names_38 : decode cX5_names 38 = .ok (.ifCond .ne 6, 3) := by decide +kernel
theorem dX5_names_41 : decode cX5_names 41 = .ok (.bipush (-2), 2) := by decide +kernel
theorem dX5_names_43 : decode cX5_names 43 = .ok (.ireturn, 1) := by decide +kernel
theorem dX5_names_44 : decode cX5_names 44 = .ok (.aload_n 0, 1) := by decide +kernel
theorem dX5_names_45 : decode cX5_names 45 = .ok (.iload_n 1, 1) := by decide +kernel
theorem dX5_names_46 : decode cX5_names 46 = .ok (.iload_n 2, 1) := by decide +kernel
theorem dX5_names_47 : decode cX5_names 47 = .ok (.iload_n 3, 1) := by decide +kernel
theorem dX5_names_48 : decode cX5_names 48 = .ok (.iconst 4, 1) := by decide +kernel
theorem dX5_names_49 : decode cX5_names 49 = .ok (.invokevirtual 87, 3) := by decide +kernel
theorem dX5_names_52 : decode cX5_names 52 = .ok (.istore 6, 2) := by decide +kernel
theorem dX5_names_54 : decode cX5_names 54 = .ok (.iload 6, 2) := by decide +kernel
theorem dX5_names_56 : decode cX5_names 56 = .ok (.ifCond .eq 10, 3) := by decide +kernel
theorem dX5_names_59 : decode cX5_names 59 = .ok (.aload_n 0, 1) := by decide +kernel
theorem dX5_names_60 : decode cX5_names 60 = .ok (.iload 6, 2) := by decide +kernel
theorem dX5_names_62 : decode cX5_names 62 = .ok (.invokevirtual 91, 3) := by decide +kernel
theorem dX5_names_65 : decode cX5_names 65 = .ok (.ireturn, 1) := by decide +kernel
theorem dX5_names_66 : decode cX5_names 66 = .ok (.aload_n 0, 1) := by decide +kernel
theorem dX5_names_67 : decode cX5_names 67 = .ok (.invokevirtual 177, 3) := by decide +kernel
theorem dX5_names_70 : decode cX5_names 70 = .ok (.aload_n 0, 1) := by decide +kernel
theorem dX5_names_71 : decode cX5_names 71 = .ok (.getfield 25, 3) := by decide +kernel
theorem dX5_names_74 : decode cX5_names 74 = .ok (.iload 4, 2) := by decide +kernel
theorem dX5_names_76 : decode cX5_names 76 = .ok (.iaload, 1) := by decide +kernel
theorem dX5_names_77 : decode cX5_names 77 = .ok (.istore 7, 2) := by decide +kernel
theorem dX5_names_79 : decode cX5_names 79 = .ok (.iconst 0, 1) := by decide +kernel
theorem dX5_names_80 : decode cX5_names 80 = .ok (.istore 8, 2) := by decide +kernel
theorem dX5_names_82 : decode cX5_names 82 = .ok (.iconst 0, 1) := by decide +kernel
theorem dX5_names_83 : decode cX5_names 83 = .ok (.istore 9, 2) := by decide +kernel
theorem dX5_names_85 : decode cX5_names 85 = .ok (.iload 9, 2) := by decide +kernel
theorem dX5_names_87 : decode cX5_names 87 = .ok (.iconst 4, 1) := by decide +kernel
theorem dX5_names_88 : decode cX5_names 88 = .ok (.if_icmp .ge 48, 3) := by decide +kernel
theorem dX5_names_91 : decode cX5_names 91 = .ok (.aload_n 0, 1) := by decide +kernel
theorem dX5_names_92 : decode cX5_names 92 = .ok (.getfield 25, 3) := by decide +kernel
theorem dX5_names_95 : decode cX5_names 95 = .ok (.iload 4, 2) := by decide +kernel
theorem dX5_names_97 : decode cX5_names 97 = .ok (.iload 9, 2) := by decide +kernel
theorem dX5_names_99 : decode cX5_names 99 = .ok (.iastore, 1) := by decide +kernel
theorem dX5_names_100 : decode cX5_names 100 = .ok (.iload 8, 2) := by decide +kernel
theorem dX5_names_102 : decode cX5_names 102 = .ok (.aload_n 0, 1) := by decide +kernel
theorem dX5_names_103 : decode cX5_names 103 = .ok (.iload 4, 2) := by decide +kernel
theorem dX5_names_105 : decode cX5_names 105 = .ok (.iload 5, 2) := by decide +kernel
theorem dX5_names_107 : decode cX5_names 107 = .ok (.bipush 60, 2) := by decide +kernel
theorem dX5_names_109 : decode cX5_names 109 = .ok (.iload_n 1, 1) := by decide +kernel
theorem dX5_names_110 : decode cX5_names 110 = .ok (.imul, 1) := by decide +kernel
theorem dX5_names_111 : decode cX5_names 111 = .ok (.iload_n 3, 1) := by decide +kernel
theorem dX5_names_112 : decode cX5_names 112 = .ok (.iadd, 1) := by decide +kernel
theorem dX5_names_113 : decode cX5_names 113 = .ok (.invokevirtual 219, 3) := by decide +kernel
theorem dX5_names_116 : decode cX5_names 116 = .ok (.ifCond .eq 10, 3) := by decide +kernel
theorem dX5_names_119 : decode cX5_names 119 = .ok (.iconst 1, 1) := by decide +kernel
theorem dX5_names_120 : decode cX5_names 120 = .ok (.iload 9, 2) := by decide +kernel
theorem dX5_names_122 : decode cX5_names 122 = .ok (.ishl, 1) := by decide +kernel
theorem dX5_names_123 : decode cX5_names 123 = .ok (.goto 4, 3) := by decide +kernel
theorem dX5_names_126 : decode cX5_names 126 = .ok (.iconst 0, 1) := by decide +kernel
theorem dX5_names_127 : decode cX5_names 127 = .ok (.ior, 1) := by decide +kernel
theorem dX5_names_128 : decode cX5_names 128 = .ok (.istore 8, 2) := by decide +kernel
theorem dX5_names_130 : decode cX5_names 130 = .ok (.iinc 9 1, 3) := by decide +kernel
theorem dX5_names_133 : decode cX5_names 133 = .ok (.goto (-48), 3) := by decide +kernel
theorem dX5_names_136 : decode cX5_names 136 = .ok (.aload_n 0, 1) := by decide +kernel
theorem dX5_names_137 : decode cX5_names 137 = .ok (.getfield 25, 3) := by decide +kernel
theorem dX5_names_140 : decode cX5_names 140 = .ok (.iload 4, 2) := by decide +kernel
theorem dX5_names_142 : decode cX5_names 142 = .ok (.iload 7, 2) := by decide +kernel
theorem dX5_names_144 : decode cX5_names 144 = .ok (.iastore, 1) := by decide +kernel
theorem dX5_names_145 : decode cX5_names 145 = .ok (.iload 8, 2) := by decide +kernel
theorem dX5_names_147 : decode cX5_names 147 = .ok (.ireturn, 1) := by decide +kernel
theorem dX5_inLeastTerms_0 : decode cX5_inLeastTerms 0 = .ok (.lload_n 0, 1) := by decide +kernel
theorem dX5_inLeastTerms_1 : decode cX5_inLeastTerms 1 = .ok (.lstore 5, 2) := by decide +kernel
theorem dX5_inLeastTerms_3 : decode cX5_inLeastTerms 3 = .ok (.lload_n 2, 1) := by decide +kernel
theorem dX5_inLeastTerms_4 : decode cX5_inLeastTerms 4 = .ok (.lstore 7, 2) := by decide +kernel
theorem dX5_inLeastTerms_6 : decode cX5_inLeastTerms 6 = .ok (.lload 7, 2) := by decide +kernel
theorem dX5_inLeastTerms_8 : decode cX5_inLeastTerms 8 = .ok (.lconst 0, 1) := by decide +kernel
theorem dX5_inLeastTerms_9 : decode cX5_inLeastTerms 9 = .ok (.lcmp, 1) := by decide +kernel
theorem dX5_inLeastTerms_10 : decode cX5_inLeastTerms 10 = .ok (.ifCond .eq 21, 3) := by decide +kernel
theorem dX5_inLeastTerms_13 : decode cX5_inLeastTerms 13 = .ok (.lload 5, 2) := by decide +kernel
theorem dX5_inLeastTerms_15 : decode cX5_inLeastTerms 15 = .ok (.lload 7, 2) := by decide +kernel
theorem dX5_inLeastTerms_17 : decode cX5_inLeastTerms 17 = .ok (.lrem, 1) := by decide +kernel
theorem dX5_inLeastTerms_18 : decode cX5_inLeastTerms 18 = .ok (.lstore 9, 2) := by decide +kernel
theorem dX5_inLeastTerms_20 : decode cX5_inLeastTerms 20 = .ok (.lload 7, 2) := by decide +kernel
theorem dX5_inLeastTerms_22 : decode cX5_inLeastTerms 22 = .ok (.lstore 5, 2) := by decide +kernel
theorem dX5_inLeastTerms_24 : decode cX5_inLeastTerms 24 = .ok (.lload 9, 2) := by decide +kernel
theorem dX5_inLeastTerms_26 : decode cX5_inLeastTerms 26 = .ok (.lstore 7, 2) := by decide +kernel
theorem dX5_inLeastTerms_28 : decode cX5_inLeastTerms 28 = .ok (.goto (-22), 3) := by decide +kernel
theorem dX5_inLeastTerms_31 : decode cX5_inLeastTerms 31 = .ok (.iload 4, 2) := by decide +kernel
theorem dX5_inLeastTerms_33 : decode cX5_inLeastTerms 33 = .ok (.ifCond .ne 10, 3) := by decide +kernel
theorem dX5_inLeastTerms_36 : decode cX5_inLeastTerms 36 = .ok (.lload_n 0, 1) := by decide +kernel
theorem dX5_inLeastTerms_37 : decode cX5_inLeastTerms 37 = .ok (.lload 5, 2) := by decide +kernel
theorem dX5_inLeastTerms_39 : decode cX5_inLeastTerms 39 = .ok (.ldiv, 1) := by decide +kernel
theorem dX5_inLeastTerms_40 : decode cX5_inLeastTerms 40 = .ok (.goto 7, 3) := by decide +kernel
theorem dX5_inLeastTerms_43 : decode cX5_inLeastTerms 43 = .ok (.lload_n 2, 1) := by decide +kernel
theorem dX5_inLeastTerms_44 : decode cX5_inLeastTerms 44 = .ok (.lload 5, 2) := by decide +kernel
theorem dX5_inLeastTerms_46 : decode cX5_inLeastTerms 46 = .ok (.ldiv, 1) := by decide +kernel
theorem dX5_inLeastTerms_47 : decode cX5_inLeastTerms 47 = .ok (.lreturn, 1) := by decide +kernel
theorem dX5_tooRough_0 : decode cX5_tooRough 0 = .ok (.iconst 0, 1) := by decide +kernel
theorem dX5_tooRough_1 : decode cX5_tooRough 1 = .ok (.istore_n 2, 1) := by decide +kernel
theorem dX5_tooRough_2 : decode cX5_tooRough 2 = .ok (.iconst 0, 1) := by decide +kernel
theorem dX5_tooRough_3 : decode cX5_tooRough 3 = .ok (.istore_n 3, 1) := by decide +kernel
theorem dX5_tooRough_4 : decode cX5_tooRough 4 = .ok (.iload_n 3, 1) := by decide +kernel
theorem dX5_tooRough_5 : decode cX5_tooRough 5 = .ok (.aload_n 0, 1) := by decide +kernel
theorem dX5_tooRough_6 : decode cX5_tooRough 6 = .ok (.getfield 74, 3) := by decide +kernel
theorem dX5_tooRough_9 : decode cX5_tooRough 9 = .ok (.if_icmp .ge 31, 3) := by decide +kernel
theorem dX5_tooRough_12 : decode cX5_tooRough 12 = .ok (.iload_n 2, 1) := by decide +kernel
theorem dX5_tooRough_13 : decode cX5_tooRough 13 = .ok (.aload_n 0, 1) := by decide +kernel
theorem dX5_tooRough_14 : decode cX5_tooRough 14 = .ok (.getfield 19, 3) := by decide +kernel
theorem dX5_tooRough_17 : decode cX5_tooRough 17 = .ok (.iload_n 3, 1) := by decide +kernel
theorem dX5_tooRough_18 : decode cX5_tooRough 18 = .ok (.iaload, 1) := by decide +kernel
theorem dX5_tooRough_19 : decode cX5_tooRough 19 = .ok (.aload_n 0, 1) := by decide +kernel
theorem dX5_tooRough_20 : decode cX5_tooRough 20 = .ok (.iload_n 1, 1) := by decide +kernel
theorem dX5_tooRough_21 : decode cX5_tooRough 21 = .ok (.invokevirtual 130, 3) := by decide +kernel
theorem dX5_tooRough_24 : decode cX5_tooRough 24 = .ok (.if_icmp .le 7, 3) := by decide +kernel
theorem dX5_tooRough_27 : decode cX5_tooRough 27 = .ok (.iconst 1, 1) := by decide +kernel
theorem dX5_tooRough_28 : decode cX5_tooRough 28 = .ok (.goto 4, 3) := by decide +kernel
theorem dX5_tooRough_31 : decode cX5_tooRough 31 = .ok (.iconst 0, 1) := by decide +kernel
theorem dX5_tooRough_32 : decode cX5_tooRough 32 = .ok (.iadd, 1) := by decide +kernel
theorem dX5_tooRough_33 : decode cX5_tooRough 33 = .ok (.istore_n 2, 1) := by decide +kernel
theorem dX5_tooRough_34 : decode cX5_tooRough 34 = .ok (.iinc 3 1, 3) := by decide +kernel
theorem dX5_tooRough_37 : decode cX5_tooRough 37 = .ok (.goto (-33), 3) := by decide +kernel
theorem dX5_tooRough_40 : decode cX5_tooRough 40 = .ok (.iload_n 2, 1) := by decide +kernel
theorem dX5_tooRough_41 : decode cX5_tooRough 41 = .ok (.ireturn, 1) := by decide +kernel
theorem dX5_odds_0 : decode cX5_odds 0 = .ok (.aload_n 0, 1) := by decide +kernel
theorem dX5_odds_1 : decode cX5_odds 1 = .ok (.iload_n 1, 1) := by decide +kernel
theorem dX5_odds_2 : decode cX5_odds 2 = .ok (.invokevirtual 127, 3) := by decide +kernel
theorem dX5_odds_5 : decode cX5_odds 5 = .ok (.ifCond .eq 19, 3) := by decide +kernel
theorem dX5_odds_8 : decode cX5_odds 8 = .ok (.iload_n 2, 1) := by decide +kernel
theorem dX5_odds_9 : decode cX5_odds 9 = .ok (.invokestatic 148, 3) := by decide +kernel
theorem dX5_odds_12 : decode cX5_odds 12 = .ok (.ifCond .eq 12, 3) := by decide +kernel
theorem dX5_odds_15 : decode cX5_odds 15 = .ok (.iload_n 3, 1) := by decide +kernel
theorem dX5_odds_16 : decode cX5_odds 16 = .ok (.iconst 0, 1) := by decide +kernel
theorem dX5_odds_17 : decode cX5_odds 17 = .ok (.iconst 1, 1) := by decide +kernel
theorem dX5_odds_18 : decode cX5_odds 18 = .ok (.invokestatic 67, 3) := by decide +kernel
theorem dX5_odds_21 : decode cX5_odds 21 = .ok (.ifCond .ne 7, 3) := by decide +kernel
theorem dX5_odds_24 : decode cX5_odds 24 = .ok (.ldc2_w 65, 3) := by decide +kernel
theorem dX5_odds_27 : decode cX5_odds 27 = .ok (.lreturn, 1) := by decide +kernel
theorem dX5_odds_28 : decode cX5_odds 28 = .ok (.aload_n 0, 1) := by decide +kernel
theorem dX5_odds_29 : decode cX5_odds 29 = .ok (.iload_n 1, 1) := by decide +kernel
theorem dX5_odds_30 : decode cX5_odds 30 = .ok (.invokevirtual 151, 3) := by decide +kernel
theorem dX5_odds_33 : decode cX5_odds 33 = .ok (.iload_n 2, 1) := by decide +kernel
theorem dX5_odds_34 : decode cX5_odds 34 = .ok (.if_icmp .ne 12, 3) := by decide +kernel
theorem dX5_odds_37 : decode cX5_odds 37 = .ok (.aload_n 0, 1) := by decide +kernel
theorem dX5_odds_38 : decode cX5_odds 38 = .ok (.iload_n 1, 1) := by decide +kernel
theorem dX5_odds_39 : decode cX5_odds 39 = .ok (.invokevirtual 222, 3) := by decide +kernel
theorem dX5_odds_42 : decode cX5_odds 42 = .ok (.i2l, 1) := by decide +kernel
theorem dX5_odds_43 : decode cX5_odds 43 = .ok (.goto 4, 3) := by decide +kernel
theorem dX5_odds_46 : decode cX5_odds 46 = .ok (.lconst 0, 1) := by decide +kernel
theorem dX5_odds_47 : decode cX5_odds 47 = .ok (.aload_n 0, 1) := by decide +kernel
theorem dX5_odds_48 : decode cX5_odds 48 = .ok (.getfield 74, 3) := by decide +kernel
theorem dX5_odds_51 : decode cX5_odds 51 = .ok (.i2l, 1) := by decide +kernel
theorem dX5_odds_52 : decode cX5_odds 52 = .ok (.iload_n 3, 1) := by decide +kernel
theorem dX5_odds_53 : decode cX5_odds 53 = .ok (.invokestatic 225, 3) := by decide +kernel
theorem dX5_odds_56 : decode cX5_odds 56 = .ok (.lreturn, 1) := by decide +kernel
theorem dX5_premium_0 : decode cX5_premium 0 = .ok (.aload_n 0, 1) := by decide +kernel
theorem dX5_premium_1 : decode cX5_premium 1 = .ok (.iload_n 1, 1) := by decide +kernel
theorem dX5_premium_2 : decode cX5_premium 2 = .ok (.invokevirtual 127, 3) := by decide +kernel
theorem dX5_premium_5 : decode cX5_premium 5 = .ok (.ifCond .eq 12, 3) := by decide +kernel
theorem dX5_premium_8 : decode cX5_premium 8 = .ok (.iload_n 2, 1) := by decide +kernel
theorem dX5_premium_9 : decode cX5_premium 9 = .ok (.iconst 0, 1) := by decide +kernel
theorem dX5_premium_10 : decode cX5_premium 10 = .ok (.iconst 1, 1) := by decide +kernel
theorem dX5_premium_11 : decode cX5_premium 11 = .ok (.invokestatic 67, 3) := by decide +kernel
theorem dX5_premium_14 : decode cX5_premium 14 = .ok (.ifCond .ne 7, 3) := by decide +kernel
theorem dX5_premium_17 : decode cX5_premium 17 = .ok (.ldc2_w 65, 3) := by decide +kernel
theorem dX5_premium_20 : decode cX5_premium 20 = .ok (.lreturn, 1) := by decide +kernel
theorem dX5_premium_21 : decode cX5_premium 21 = .ok (.aload_n 0, 1) := by decide +kernel
theorem dX5_premium_22 : decode cX5_premium 22 = .ok (.iload_n 1, 1) := by decide +kernel
theorem dX5_premium_23 : decode cX5_premium 23 = .ok (.invokevirtual 151, 3) := by decide +kernel
theorem dX5_premium_26 : decode cX5_premium 26 = .ok (.istore_n 3, 1) := by decide +kernel
theorem dX5_premium_27 : decode cX5_premium 27 = .ok (.iload_n 3, 1) := by decide +kernel
theorem dX5_premium_28 : decode cX5_premium 28 = .ok (.bipush (-9), 2) := by decide +kernel
theorem dX5_premium_30 : decode cX5_premium 30 = .ok (.if_icmp .ne 7, 3) := by decide +kernel
theorem dX5_premium_33 : decode cX5_premium 33 = .ok (.lconst 0, 1) := by decide +kernel
theorem dX5_premium_34 : decode cX5_premium 34 = .ok (.goto 13, 3) := by decide +kernel
theorem dX5_premium_37 : decode cX5_premium 37 = .ok (.iload_n 3, 1) := by decide +kernel
theorem dX5_premium_38 : decode cX5_premium 38 = .ok (.iconst 1, 1) := by decide +kernel
theorem dX5_premium_39 : decode cX5_premium 39 = .ok (.iadd, 1) := by decide +kernel
theorem dX5_premium_40 : decode cX5_premium 40 = .ok (.aload_n 0, 1) := by decide +kernel
theorem dX5_premium_41 : decode cX5_premium 41 = .ok (.iload_n 1, 1) := by decide +kernel
theorem dX5_premium_42 : decode cX5_premium 42 = .ok (.invokevirtual 222, 3) := by decide +kernel
theorem dX5_premium_45 : decode cX5_premium 45 = .ok (.imul, 1) := by decide +kernel
theorem dX5_premium_46 : decode cX5_premium 46 = .ok (.i2l, 1) := by decide +kernel
theorem dX5_premium_47 : decode cX5_premium 47 = .ok (.aload_n 0, 1) := by decide +kernel
theorem dX5_premium_48 : decode cX5_premium 48 = .ok (.getfield 74, 3) := by decide +kernel
theorem dX5_premium_51 : decode cX5_premium 51 = .ok (.i2l, 1) := by decide +kernel
theorem dX5_premium_52 : decode cX5_premium 52 = .ok (.iload_n 2, 1) := by decide +kernel
theorem dX5_premium_53 : decode cX5_premium 53 = .ok (.invokestatic 225, 3) := by decide +kernel
theorem dX5_premium_56 : decode cX5_premium 56 = .ok (.lreturn, 1) := by decide +kernel
theorem dX5_sheet_0 : decode cX5_sheet 0 = .ok (.aload_n 0, 1) := by decide +kernel
theorem dX5_sheet_1 : decode cX5_sheet 1 = .ok (.iconst 0, 1) := by decide +kernel
theorem dX5_sheet_2 : decode cX5_sheet 2 = .ok (.putfield 61, 3) := by decide +kernel
theorem dX5_sheet_5 : decode cX5_sheet 5 = .ok (.iload_n 1, 1) := by decide +kernel
theorem dX5_sheet_6 : decode cX5_sheet 6 = .ok (.invokestatic 80, 3) := by decide +kernel
theorem dX5_sheet_9 : decode cX5_sheet 9 = .ok (.ifCond .ne 5, 3) := by decide +kernel
theorem dX5_sheet_12 : decode cX5_sheet 12 = .ok (.iconst (-1), 1) := by decide +kernel
theorem dX5_sheet_13 : decode cX5_sheet 13 = .ok (.ireturn, 1) := by decide +kernel
theorem dX5_sheet_14 : decode cX5_sheet 14 = .ok (.iload_n 2, 1) := by decide +kernel
theorem dX5_sheet_15 : decode cX5_sheet 15 = .ok (.invokestatic 84, 3) := by decide +kernel
theorem dX5_sheet_18 : decode cX5_sheet 18 = .ok (.ifCond .eq 9, 3) := by decide +kernel
theorem dX5_sheet_21 : decode cX5_sheet 21 = .ok (.iload_n 3, 1) := by decide +kernel
theorem dX5_sheet_22 : decode cX5_sheet 22 = .ok (.bipush 60, 2) := by decide +kernel
theorem dX5_sheet_24 : decode cX5_sheet 24 = .ok (.if_icmp .le 6, 3) := by decide +kernel
theorem dX5_sheet_27 : decode cX5_sheet 27 = .ok (.bipush (-2), 2) := by decide +kernel
theorem dX5_sheet_29 : decode cX5_sheet 29 = .ok (.ireturn, 1) := by decide +kernel
theorem dX5_sheet_30 : decode cX5_sheet 30 = .ok (.iload_n 3, 1) := by decide +kernel
theorem dX5_sheet_31 : decode cX5_sheet 31 = .ok (.ifCond .ge 9, 3) := by decide +kernel
theorem dX5_sheet_34 : decode cX5_sheet 34 = .ok (.aload_n 0, 1) := by decide +kernel
theorem dX5_sheet_35 : decode cX5_sheet 35 = .ok (.iconst 4, 1) := by decide +kernel
theorem dX5_sheet_36 : decode cX5_sheet 36 = .ok (.invokevirtual 91, 3) := by decide +kernel
theorem dX5_sheet_39 : decode cX5_sheet 39 = .ok (.ireturn, 1) := by decide +kernel
theorem dX5_sheet_40 : decode cX5_sheet 40 = .ok (.aload_n 0, 1) := by decide +kernel
theorem dX5_sheet_41 : decode cX5_sheet 41 = .ok (.getfield 9, 3) := by decide +kernel
theorem dX5_sheet_44 : decode cX5_sheet 44 = .ok (.iload_n 1, 1) := by decide +kernel
theorem dX5_sheet_45 : decode cX5_sheet 45 = .ok (.iload_n 2, 1) := by decide +kernel
theorem dX5_sheet_46 : decode cX5_sheet 46 = .ok (.iastore, 1) := by decide +kernel
theorem dX5_sheet_47 : decode cX5_sheet 47 = .ok (.aload_n 0, 1) := by decide +kernel
theorem dX5_sheet_48 : decode cX5_sheet 48 = .ok (.getfield 13, 3) := by decide +kernel
theorem dX5_sheet_51 : decode cX5_sheet 51 = .ok (.iload_n 1, 1) := by decide +kernel
theorem dX5_sheet_52 : decode cX5_sheet 52 = .ok (.iload_n 3, 1) := by decide +kernel
theorem dX5_sheet_53 : decode cX5_sheet 53 = .ok (.iastore, 1) := by decide +kernel
theorem dX5_sheet_54 : decode cX5_sheet 54 = .ok (.iconst 0, 1) := by decide +kernel
theorem dX5_sheet_55 : decode cX5_sheet 55 = .ok (.istore 4, 2) := by decide +kernel
theorem dX5_sheet_57 : decode cX5_sheet 57 = .ok (.iload 4, 2) := by decide +kernel
theorem dX5_sheet_59 : decode cX5_sheet 59 = .ok (.bipush 60, 2) := by decide +kernel
theorem dX5_sheet_61 : decode cX5_sheet 61 = .ok (.if_icmp .ge 22, 3) := by decide +kernel
theorem dX5_sheet_64 : decode cX5_sheet 64 = .ok (.aload_n 0, 1) := by decide +kernel
theorem dX5_sheet_65 : decode cX5_sheet 65 = .ok (.getfield 16, 3) := by decide +kernel
theorem dX5_sheet_68 : decode cX5_sheet 68 = .ok (.bipush 60, 2) := by decide +kernel
theorem dX5_sheet_70 : decode cX5_sheet 70 = .ok (.iload_n 1, 1) := by decide +kernel
theorem dX5_sheet_71 : decode cX5_sheet 71 = .ok (.imul, 1) := by decide +kernel
theorem dX5_sheet_72 : decode cX5_sheet 72 = .ok (.iload 4, 2) := by decide +kernel
theorem dX5_sheet_74 : decode cX5_sheet 74 = .ok (.iadd, 1) := by decide +kernel
theorem dX5_sheet_75 : decode cX5_sheet 75 = .ok (.iconst 0, 1) := by decide +kernel
theorem dX5_sheet_76 : decode cX5_sheet 76 = .ok (.iastore, 1) := by decide +kernel
theorem dX5_sheet_77 : decode cX5_sheet 77 = .ok (.iinc 4 1, 3) := by decide +kernel
theorem dX5_sheet_80 : decode cX5_sheet 80 = .ok (.goto (-23), 3) := by decide +kernel
theorem dX5_sheet_83 : decode cX5_sheet 83 = .ok (.iconst 1, 1) := by decide +kernel
theorem dX5_sheet_84 : decode cX5_sheet 84 = .ok (.ireturn, 1) := by decide +kernel
theorem dX5_lose_0 : decode cX5_lose 0 = .ok (.iload_n 1, 1) := by decide +kernel
theorem dX5_lose_1 : decode cX5_lose 1 = .ok (.invokestatic 80, 3) := by decide +kernel
theorem dX5_lose_4 : decode cX5_lose 4 = .ok (.ifCond .ne 5, 3) := by decide +kernel
theorem dX5_lose_7 : decode cX5_lose 7 = .ok (.iconst (-1), 1) := by decide +kernel
theorem dX5_lose_8 : decode cX5_lose 8 = .ok (.ireturn, 1) := by decide +kernel
theorem dX5_lose_9 : decode cX5_lose 9 = .ok (.aload_n 0, 1) := by decide +kernel
theorem dX5_lose_10 : decode cX5_lose 10 = .ok (.getfield 9, 3) := by decide +kernel
theorem dX5_lose_13 : decode cX5_lose 13 = .ok (.iload_n 1, 1) := by decide +kernel
theorem dX5_lose_14 : decode cX5_lose 14 = .ok (.iaload, 1) := by decide +kernel
theorem dX5_lose_15 : decode cX5_lose 15 = .ok (.bipush (-9), 2) := by decide +kernel
theorem dX5_lose_17 : decode cX5_lose 17 = .ok (.if_icmp .ne 7, 3) := by decide +kernel
theorem dX5_lose_20 : decode cX5_lose 20 = .ok (.iconst 0, 1) := by decide +kernel
theorem dX5_lose_21 : decode cX5_lose 21 = .ok (.goto 4, 3) := by decide +kernel
theorem dX5_lose_24 : decode cX5_lose 24 = .ok (.iconst 1, 1) := by decide +kernel
theorem dX5_lose_25 : decode cX5_lose 25 = .ok (.istore_n 2, 1) := by decide +kernel
theorem dX5_lose_26 : decode cX5_lose 26 = .ok (.aload_n 0, 1) := by decide +kernel
theorem dX5_lose_27 : decode cX5_lose 27 = .ok (.getfield 9, 3) := by decide +kernel
theorem dX5_lose_30 : decode cX5_lose 30 = .ok (.iload_n 1, 1) := by decide +kernel
theorem dX5_lose_31 : decode cX5_lose 31 = .ok (.bipush (-9), 2) := by decide +kernel
theorem dX5_lose_33 : decode cX5_lose 33 = .ok (.iastore, 1) := by decide +kernel
theorem dX5_lose_34 : decode cX5_lose 34 = .ok (.iload_n 2, 1) := by decide +kernel
theorem dX5_lose_35 : decode cX5_lose 35 = .ok (.ireturn, 1) := by decide +kernel
theorem dX5_put_0 : decode cX5_put 0 = .ok (.aload_n 0, 1) := by decide +kernel
theorem dX5_put_1 : decode cX5_put 1 = .ok (.iconst 0, 1) := by decide +kernel
theorem dX5_put_2 : decode cX5_put 2 = .ok (.putfield 61, 3) := by decide +kernel
theorem dX5_put_5 : decode cX5_put 5 = .ok (.iload_n 1, 1) := by decide +kernel
theorem dX5_put_6 : decode cX5_put 6 = .ok (.invokestatic 80, 3) := by decide +kernel
theorem dX5_put_9 : decode cX5_put 9 = .ok (.ifCond .ne 5, 3) := by decide +kernel
theorem dX5_put_12 : decode cX5_put 12 = .ok (.iconst (-1), 1) := by decide +kernel
theorem dX5_put_13 : decode cX5_put 13 = .ok (.ireturn, 1) := by decide +kernel
theorem dX5_put_14 : decode cX5_put 14 = .ok (.aload_n 0, 1) := by decide +kernel
theorem dX5_put_15 : decode cX5_put 15 = .ok (.getfield 9, 3) := by decide +kernel
theorem dX5_put_18 : decode cX5_put 18 = .ok (.iload_n 1, 1) := by decide +kernel
theorem dX5_put_19 : decode cX5_put 19 = .ok (.iaload, 1) := by decide +kernel
theorem dX5_put_20 : decode cX5_put 20 = .ok (.bipush (-9), 2) := by decide +kernel
theorem dX5_put_22 : decode cX5_put 22 = .ok (.if_icmp .ne 9, 3) := by decide +kernel
theorem dX5_put_25 : decode cX5_put 25 = .ok (.aload_n 0, 1) := by decide +kernel
theorem dX5_put_26 : decode cX5_put 26 = .ok (.iconst 1, 1) := by decide +kernel
theorem dX5_put_27 : decode cX5_put 27 = .ok (.invokevirtual 91, 3) := by decide +kernel
theorem dX5_put_30 : decode cX5_put 30 = .ok (.ireturn, 1) := by decide +kernel
theorem dX5_put_31 : decode cX5_put 31 = .ok (.iload_n 2, 1) := by decide +kernel
theorem dX5_put_32 : decode cX5_put 32 = .ok (.iconst 0, 1) := by decide +kernel
theorem dX5_put_33 : decode cX5_put 33 = .ok (.aload_n 0, 1) := by decide +kernel
theorem dX5_put_34 : decode cX5_put 34 = .ok (.getfield 13, 3) := by decide +kernel
theorem dX5_put_37 : decode cX5_put 37 = .ok (.iload_n 1, 1) := by decide +kernel
theorem dX5_put_38 : decode cX5_put 38 = .ok (.iaload, 1) := by decide +kernel
theorem dX5_put_39 : decode cX5_put 39 = .ok (.iconst 1, 1) := by decide +kernel
theorem dX5_put_40 : decode cX5_put 40 = .ok (.isub, 1) := by decide +kernel
theorem dX5_put_41 : decode cX5_put 41 = .ok (.invokestatic 67, 3) := by decide +kernel
theorem dX5_put_44 : decode cX5_put 44 = .ok (.ifCond .ne 9, 3) := by decide +kernel
theorem dX5_put_47 : decode cX5_put 47 = .ok (.aload_n 0, 1) := by decide +kernel
theorem dX5_put_48 : decode cX5_put 48 = .ok (.iconst 3, 1) := by decide +kernel
theorem dX5_put_49 : decode cX5_put 49 = .ok (.invokevirtual 91, 3) := by decide +kernel
theorem dX5_put_52 : decode cX5_put 52 = .ok (.ireturn, 1) := by decide +kernel
theorem dX5_put_53 : decode cX5_put 53 = .ok (.aload_n 0, 1) := by decide +kernel
theorem dX5_put_54 : decode cX5_put 54 = .ok (.getfield 16, 3) := by decide +kernel
theorem dX5_put_57 : decode cX5_put 57 = .ok (.bipush 60, 2) := by decide +kernel
theorem dX5_put_59 : decode cX5_put 59 = .ok (.iload_n 1, 1) := by decide +kernel
theorem dX5_put_60 : decode cX5_put 60 = .ok (.imul, 1) := by decide +kernel
theorem dX5_put_61 : decode cX5_put 61 = .ok (.iload_n 2, 1) := by decide +kernel
theorem dX5_put_62 : decode cX5_put 62 = .ok (.iadd, 1) := by decide +kernel
theorem dX5_put_63 : decode cX5_put 63 = .ok (.aload_n 0, 1) := by decide +kernel
theorem dX5_put_64 : decode cX5_put 64 = .ok (.getfield 9, 3) := by decide +kernel
theorem dX5_put_67 : decode cX5_put 67 = .ok (.iload_n 1, 1) := by decide +kernel
theorem dX5_put_68 : decode cX5_put 68 = .ok (.iaload, 1) := by decide +kernel
theorem dX5_put_69 : decode cX5_put 69 = .ok (.ifCond .ne 8, 3) := by decide +kernel
theorem dX5_put_72 : decode cX5_put 72 = .ok (.iload_n 3, 1) := by decide +kernel
theorem dX5_put_73 : decode cX5_put 73 = .ok (.i2b, 1) := by decide +kernel
theorem dX5_put_74 : decode cX5_put 74 = .ok (.goto 19, 3) := by decide +kernel
theorem dX5_put_77 : decode cX5_put 77 = .ok (.aload_n 0, 1) := by decide +kernel
theorem dX5_put_78 : decode cX5_put 78 = .ok (.getfield 9, 3) := by decide +kernel
theorem dX5_put_81 : decode cX5_put 81 = .ok (.iload_n 1, 1) := by decide +kernel
theorem dX5_put_82 : decode cX5_put 82 = .ok (.iaload, 1) := by decide +kernel
theorem dX5_put_83 : decode cX5_put 83 = .ok (.iconst 1, 1) := by decide +kernel
theorem dX5_put_84 : decode cX5_put 84 = .ok (.if_icmp .ne 8, 3) := by decide +kernel
theorem dX5_put_87 : decode cX5_put 87 = .ok (.iload_n 3, 1) := by decide +kernel
theorem dX5_put_88 : decode cX5_put 88 = .ok (.i2s, 1) := by decide +kernel
theorem dX5_put_89 : decode cX5_put 89 = .ok (.goto 4, 3) := by decide +kernel
theorem dX5_put_92 : decode cX5_put 92 = .ok (.iload_n 3, 1) := by decide +kernel
theorem dX5_put_93 : decode cX5_put 93 = .ok (.iastore, 1) := by decide +kernel
theorem dX5_put_94 : decode cX5_put 94 = .ok (.iconst 1, 1) := by decide +kernel
theorem dX5_put_95 : decode cX5_put 95 = .ok (.ireturn, 1) := by decide +kernel
theorem dX5_cell_0 : decode cX5_cell 0 = .ok (.aload_n 0, 1) := by decide +kernel
theorem dX5_cell_1 : decode cX5_cell 1 = .ok (.iconst 0, 1) := by decide +kernel
theorem dX5_cell_2 : decode cX5_cell 2 = .ok (.putfield 61, 3) := by decide +kernel
theorem dX5_cell_5 : decode cX5_cell 5 = .ok (.iload_n 1, 1) := by decide +kernel
theorem dX5_cell_6 : decode cX5_cell 6 = .ok (.invokestatic 80, 3) := by decide +kernel
theorem dX5_cell_9 : decode cX5_cell 9 = .ok (.ifCond .eq 10, 3) := by decide +kernel
theorem dX5_cell_12 : decode cX5_cell 12 = .ok (.iload_n 3, 1) := by decide +kernel
theorem dX5_cell_13 : decode cX5_cell 13 = .ok (.invokestatic 84, 3) := by decide +kernel
theorem dX5_cell_16 : decode cX5_cell 16 = .ok (.ifCond .ne 7, 3) := by decide +kernel
theorem dX5_cell_19 : decode cX5_cell 19 = .ok (.ldc2_w 65, 3) := by decide +kernel
theorem dX5_cell_22 : decode cX5_cell 22 = .ok (.lreturn, 1) := by decide +kernel
theorem dX5_cell_23 : decode cX5_cell 23 = .ok (.aload_n 0, 1) := by decide +kernel
theorem dX5_cell_24 : decode cX5_cell 24 = .ok (.getfield 9, 3) := by decide +kernel
theorem dX5_cell_27 : decode cX5_cell 27 = .ok (.iload_n 1, 1) := by decide +kernel
theorem dX5_cell_28 : decode cX5_cell 28 = .ok (.iaload, 1) := by decide +kernel
theorem dX5_cell_29 : decode cX5_cell 29 = .ok (.bipush (-9), 2) := by decide +kernel
theorem dX5_cell_31 : decode cX5_cell 31 = .ok (.if_icmp .eq 19, 3) := by decide +kernel
theorem dX5_cell_34 : decode cX5_cell 34 = .ok (.aload_n 0, 1) := by decide +kernel
theorem dX5_cell_35 : decode cX5_cell 35 = .ok (.getfield 9, 3) := by decide +kernel
theorem dX5_cell_38 : decode cX5_cell 38 = .ok (.iload_n 1, 1) := by decide +kernel
theorem dX5_cell_39 : decode cX5_cell 39 = .ok (.iaload, 1) := by decide +kernel
theorem dX5_cell_40 : decode cX5_cell 40 = .ok (.iload_n 3, 1) := by decide +kernel
theorem dX5_cell_41 : decode cX5_cell 41 = .ok (.if_icmp .eq 9, 3) := by decide +kernel
theorem dX5_cell_44 : decode cX5_cell 44 = .ok (.aload_n 0, 1) := by decide +kernel
theorem dX5_cell_45 : decode cX5_cell 45 = .ok (.iconst 2, 1) := by decide +kernel
theorem dX5_cell_46 : decode cX5_cell 46 = .ok (.invokevirtual 229, 3) := by decide +kernel
theorem dX5_cell_49 : decode cX5_cell 49 = .ok (.lreturn, 1) := by decide +kernel
theorem dX5_cell_50 : decode cX5_cell 50 = .ok (.aload_n 0, 1) := by decide +kernel
theorem dX5_cell_51 : decode cX5_cell 51 = .ok (.getfield 9, 3) := by decide +kernel
theorem dX5_cell_54 : decode cX5_cell 54 = .ok (.iload_n 1, 1) := by decide +kernel
theorem dX5_cell_55 : decode cX5_cell 55 = .ok (.iaload, 1) := by decide +kernel
theorem dX5_cell_56 : decode cX5_cell 56 = .ok (.bipush (-9), 2) := by decide +kernel
theorem dX5_cell_58 : decode cX5_cell 58 = .ok (.if_icmp .ne 9, 3) := by decide +kernel
theorem dX5_cell_61 : decode cX5_cell 61 = .ok (.aload_n 0, 1) := by decide +kernel
theorem dX5_cell_62 : decode cX5_cell 62 = .ok (.iconst 1, 1) := by decide +kernel
theorem dX5_cell_63 : decode cX5_cell 63 = .ok (.invokevirtual 229, 3) := by decide +kernel
theorem dX5_cell_66 : decode cX5_cell 66 = .ok (.lreturn, 1) := by decide +kernel
theorem dX5_cell_67 : decode cX5_cell 67 = .ok (.iload_n 2, 1) := by decide +kernel
theorem dX5_cell_68 : decode cX5_cell 68 = .ok (.iconst 0, 1) := by decide +kernel
theorem dX5_cell_69 : decode cX5_cell 69 = .ok (.aload_n 0, 1) := by decide +kernel
theorem dX5_cell_70 : decode cX5_cell 70 = .ok (.getfield 13, 3) := by decide +kernel
theorem dX5_cell_73 : decode cX5_cell 73 = .ok (.iload_n 1, 1) := by decide +kernel
theorem dX5_cell_74 : decode cX5_cell 74 = .ok (.iaload, 1) := by decide +kernel
theorem dX5_cell_75 : decode cX5_cell 75 = .ok (.iconst 1, 1) := by decide +kernel
theorem dX5_cell_76 : decode cX5_cell 76 = .ok (.isub, 1) := by decide +kernel
theorem dX5_cell_77 : decode cX5_cell 77 = .ok (.invokestatic 67, 3) := by decide +kernel
theorem dX5_cell_80 : decode cX5_cell 80 = .ok (.ifCond .ne 9, 3) := by decide +kernel
theorem dX5_cell_83 : decode cX5_cell 83 = .ok (.aload_n 0, 1) := by decide +kernel
theorem dX5_cell_84 : decode cX5_cell 84 = .ok (.iconst 3, 1) := by decide +kernel
theorem dX5_cell_85 : decode cX5_cell 85 = .ok (.invokevirtual 229, 3) := by decide +kernel
theorem dX5_cell_88 : decode cX5_cell 88 = .ok (.lreturn, 1) := by decide +kernel
theorem dX5_cell_89 : decode cX5_cell 89 = .ok (.aload_n 0, 1) := by decide +kernel
theorem dX5_cell_90 : decode cX5_cell 90 = .ok (.getfield 16, 3) := by decide +kernel
theorem dX5_cell_93 : decode cX5_cell 93 = .ok (.bipush 60, 2) := by decide +kernel
theorem dX5_cell_95 : decode cX5_cell 95 = .ok (.iload_n 1, 1) := by decide +kernel
theorem dX5_cell_96 : decode cX5_cell 96 = .ok (.imul, 1) := by decide +kernel
theorem dX5_cell_97 : decode cX5_cell 97 = .ok (.iload_n 2, 1) := by decide +kernel
theorem dX5_cell_98 : decode cX5_cell 98 = .ok (.iadd, 1) := by decide +kernel
theorem dX5_cell_99 : decode cX5_cell 99 = .ok (.iaload, 1) := by decide +kernel
theorem dX5_cell_100 : decode cX5_cell 100 = .ok (.i2l, 1) := by decide +kernel
theorem dX5_cell_101 : decode cX5_cell 101 = .ok (.lreturn, 1) := by decide +kernel
theorem dX5_copy_0 : decode cX5_copy 0 = .ok (.aload_n 0, 1) := by decide +kernel
theorem dX5_copy_1 : decode cX5_copy 1 = .ok (.iconst 0, 1) := by decide +kernel
theorem dX5_copy_2 : decode cX5_copy 2 = .ok (.putfield 61, 3) := by decide +kernel
theorem dX5_copy_5 : decode cX5_copy 5 = .ok (.iload_n 1, 1) := by decide +kernel
theorem dX5_copy_6 : decode cX5_copy 6 = .ok (.invokestatic 80, 3) := by decide +kernel
theorem dX5_copy_9 : decode cX5_copy 9 = .ok (.ifCond .eq 10, 3) := by decide +kernel
theorem dX5_copy_12 : decode cX5_copy 12 = .ok (.iload_n 3, 1) := by decide +kernel
theorem dX5_copy_13 : decode cX5_copy 13 = .ok (.invokestatic 80, 3) := by decide +kernel
theorem dX5_copy_16 : decode cX5_copy 16 = .ok (.ifCond .ne 5, 3) := by decide +kernel
theorem dX5_copy_19 : decode cX5_copy 19 = .ok (.iconst (-1), 1) := by decide +kernel
theorem dX5_copy_20 : decode cX5_copy 20 = .ok (.ireturn, 1) := by decide +kernel
theorem dX5_copy_21 : decode cX5_copy 21 = .ok (.aload_n 0, 1) := by decide +kernel
theorem dX5_copy_22 : decode cX5_copy 22 = .ok (.getfield 9, 3) := by decide +kernel
theorem dX5_copy_25 : decode cX5_copy 25 = .ok (.iload_n 1, 1) := by decide +kernel
theorem dX5_copy_26 : decode cX5_copy 26 = .ok (.iaload, 1) := by decide +kernel
theorem dX5_copy_27 : decode cX5_copy 27 = .ok (.bipush (-9), 2) := by decide +kernel
theorem dX5_copy_29 : decode cX5_copy 29 = .ok (.if_icmp .eq 14, 3) := by decide +kernel
theorem dX5_copy_32 : decode cX5_copy 32 = .ok (.aload_n 0, 1) := by decide +kernel
theorem dX5_copy_33 : decode cX5_copy 33 = .ok (.getfield 9, 3) := by decide +kernel
theorem dX5_copy_36 : decode cX5_copy 36 = .ok (.iload_n 3, 1) := by decide +kernel
theorem dX5_copy_37 : decode cX5_copy 37 = .ok (.iaload, 1) := by decide +kernel
theorem dX5_copy_38 : decode cX5_copy 38 = .ok (.bipush (-9), 2) := by decide +kernel
theorem dX5_copy_40 : decode cX5_copy 40 = .ok (.if_icmp .ne 9, 3) := by decide +kernel
theorem dX5_copy_43 : decode cX5_copy 43 = .ok (.aload_n 0, 1) := by decide +kernel
theorem dX5_copy_44 : decode cX5_copy 44 = .ok (.iconst 1, 1) := by decide +kernel
theorem dX5_copy_45 : decode cX5_copy 45 = .ok (.invokevirtual 91, 3) := by decide +kernel
theorem dX5_copy_48 : decode cX5_copy 48 = .ok (.ireturn, 1) := by decide +kernel
theorem dX5_copy_49 : decode cX5_copy 49 = .ok (.aload_n 0, 1) := by decide +kernel
theorem dX5_copy_50 : decode cX5_copy 50 = .ok (.getfield 9, 3) := by decide +kernel
theorem dX5_copy_53 : decode cX5_copy 53 = .ok (.iload_n 1, 1) := by decide +kernel
theorem dX5_copy_54 : decode cX5_copy 54 = .ok (.iaload, 1) := by decide +kernel
theorem dX5_copy_55 : decode cX5_copy 55 = .ok (.aload_n 0, 1) := by decide +kernel
theorem dX5_copy_56 : decode cX5_copy 56 = .ok (.getfield 9, 3) := by decide +kernel
theorem dX5_copy_59 : decode cX5_copy 59 = .ok (.iload_n 3, 1) := by decide +kernel
theorem dX5_copy_60 : decode cX5_copy 60 = .ok (.iaload, 1) := by decide +kernel
theorem dX5_copy_61 : decode cX5_copy 61 = .ok (.if_icmp .eq 9, 3) := by decide +kernel
theorem dX5_copy_64 : decode cX5_copy 64 = .ok (.aload_n 0, 1) := by decide +kernel
theorem dX5_copy_65 : decode cX5_copy 65 = .ok (.iconst 2, 1) := by decide +kernel
theorem dX5_copy_66 : decode cX5_copy 66 = .ok (.invokevirtual 91, 3) := by decide +kernel
theorem dX5_copy_69 : decode cX5_copy 69 = .ok (.ireturn, 1) := by decide +kernel
theorem dX5_copy_70 : decode cX5_copy 70 = .ok (.iload_n 2, 1) := by decide +kernel
theorem dX5_copy_71 : decode cX5_copy 71 = .ok (.ifCond .lt 38, 3) := by decide +kernel
theorem dX5_copy_74 : decode cX5_copy 74 = .ok (.iload 4, 2) := by decide +kernel
theorem dX5_copy_76 : decode cX5_copy 76 = .ok (.ifCond .lt 33, 3) := by decide +kernel
theorem dX5_copy_79 : decode cX5_copy 79 = .ok (.iload 5, 2) := by decide +kernel
theorem dX5_copy_81 : decode cX5_copy 81 = .ok (.ifCond .lt 28, 3) := by decide +kernel
theorem dX5_copy_84 : decode cX5_copy 84 = .ok (.iload_n 2, 1) := by decide +kernel
theorem dX5_copy_85 : decode cX5_copy 85 = .ok (.aload_n 0, 1) := by decide +kernel
theorem dX5_copy_86 : decode cX5_copy 86 = .ok (.getfield 13, 3) := by decide +kernel
theorem dX5_copy_89 : decode cX5_copy 89 = .ok (.iload_n 1, 1) := by decide +kernel
theorem dX5_copy_90 : decode cX5_copy 90 = .ok (.iaload, 1) := by decide +kernel
theorem dX5_copy_91 : decode cX5_copy 91 = .ok (.if_icmp .gt 18, 3) := by decide +kernel
theorem dX5_copy_94 : decode cX5_copy 94 = .ok (.iload 4, 2) := by decide +kernel
theorem dX5_copy_96 : decode cX5_copy 96 = .ok (.aload_n 0, 1) := by decide +kernel
theorem dX5_copy_97 : decode cX5_copy 97 = .ok (.getfield 13, 3) := by decide +kernel
theorem dX5_copy_100 : decode cX5_copy 100 = .ok (.iload_n 3, 1) := by decide +kernel
theorem dX5_copy_101 : decode cX5_copy 101 = .ok (.iaload, 1) := by decide +kernel
theorem dX5_copy_102 : decode cX5_copy 102 = .ok (.if_icmp .gt 7, 3) := by decide +kernel
theorem dX5_copy_105 : decode cX5_copy 105 = .ok (.iconst 1, 1) := by decide +kernel
theorem dX5_copy_106 : decode cX5_copy 106 = .ok (.goto 4, 3) := by decide +kernel
theorem dX5_copy_109 : decode cX5_copy 109 = .ok (.iconst 0, 1) := by decide +kernel
theorem dX5_copy_110 : decode cX5_copy 110 = .ok (.istore 6, 2) := by decide +kernel
theorem dX5_copy_112 : decode cX5_copy 112 = .ok (.iload 6, 2) := by decide +kernel
theorem dX5_copy_114 : decode cX5_copy 114 = .ok (.ifCond .eq 30, 3) := by decide +kernel
theorem dX5_copy_117 : decode cX5_copy 117 = .ok (.iload 5, 2) := by decide +kernel
theorem dX5_copy_119 : decode cX5_copy 119 = .ok (.aload_n 0, 1) := by decide +kernel
theorem dX5_copy_120 : decode cX5_copy 120 = .ok (.getfield 13, 3) := by decide +kernel
theorem dX5_copy_123 : decode cX5_copy 123 = .ok (.iload_n 1, 1) := by decide +kernel
theorem dX5_copy_124 : decode cX5_copy 124 = .ok (.iaload, 1) := by decide +kernel
theorem dX5_copy_125 : decode cX5_copy 125 = .ok (.iload_n 2, 1) := by decide +kernel
theorem dX5_copy_126 : decode cX5_copy 126 = .ok (.isub, 1) := by decide +kernel
theorem dX5_copy_127 : decode cX5_copy 127 = .ok (.if_icmp .gt 17, 3) := by decide +kernel
theorem dX5_copy_130 : decode cX5_copy 130 = .ok (.iload 5, 2) := by decide +kernel
theorem dX5_copy_132 : decode cX5_copy 132 = .ok (.aload_n 0, 1) := by decide +kernel
theorem dX5_copy_133 : decode cX5_copy 133 = .ok (.getfield 13, 3) := by decide +kernel
theorem dX5_copy_136 : decode cX5_copy 136 = .ok (.iload_n 3, 1) := by decide +kernel
theorem dX5_copy_137 : decode cX5_copy 137 = .ok (.iaload, 1) := by decide +kernel
theorem dX5_copy_138 : decode cX5_copy 138 = .ok (.iload 4, 2) := by decide +kernel
theorem dX5_copy_140 : decode cX5_copy 140 = .ok (.isub, 1) := by decide +kernel
theorem dX5_copy_141 : decode cX5_copy 141 = .ok (.if_icmp .le 9, 3) := by decide +kernel
theorem dX5_copy_144 : decode cX5_copy 144 = .ok (.aload_n 0, 1) := by decide +kernel
theorem dX5_copy_145 : decode cX5_copy 145 = .ok (.iconst 3, 1) := by decide +kernel
theorem dX5_copy_146 : decode cX5_copy 146 = .ok (.invokevirtual 91, 3) := by decide +kernel
theorem dX5_copy_149 : decode cX5_copy 149 = .ok (.ireturn, 1) := by decide +kernel
theorem dX5_copy_150 : decode cX5_copy 150 = .ok (.iload_n 2, 1) := by decide +kernel
theorem dX5_copy_151 : decode cX5_copy 151 = .ok (.iload 4, 2) := by decide +kernel
theorem dX5_copy_153 : decode cX5_copy 153 = .ok (.if_icmp .ge 7, 3) := by decide +kernel
theorem dX5_copy_156 : decode cX5_copy 156 = .ok (.iconst 1, 1) := by decide +kernel
theorem dX5_copy_157 : decode cX5_copy 157 = .ok (.goto 4, 3) := by decide +kernel
theorem dX5_copy_160 : decode cX5_copy 160 = .ok (.iconst 0, 1) := by decide +kernel
theorem dX5_copy_161 : decode cX5_copy 161 = .ok (.istore 7, 2) := by decide +kernel
theorem dX5_copy_163 : decode cX5_copy 163 = .ok (.iconst 0, 1) := by decide +kernel
theorem dX5_copy_164 : decode cX5_copy 164 = .ok (.istore 8, 2) := by decide +kernel
theorem dX5_copy_166 : decode cX5_copy 166 = .ok (.iload 8, 2) := by decide +kernel
theorem dX5_copy_168 : decode cX5_copy 168 = .ok (.iload 5, 2) := by decide +kernel
theorem dX5_copy_170 : decode cX5_copy 170 = .ok (.if_icmp .ge 57, 3) := by decide +kernel
theorem dX5_copy_173 : decode cX5_copy 173 = .ok (.iload 7, 2) := by decide +kernel
theorem dX5_copy_175 : decode cX5_copy 175 = .ok (.ifCond .eq 13, 3) := by decide +kernel
theorem dX5_copy_178 : decode cX5_copy 178 = .ok (.iload 5, 2) := by decide +kernel
theorem dX5_copy_180 : decode cX5_copy 180 = .ok (.iconst 1, 1) := by decide +kernel
theorem dX5_copy_181 : decode cX5_copy 181 = .ok (.isub, 1) := by decide +kernel
theorem dX5_copy_182 : decode cX5_copy 182 = .ok (.iload 8, 2) := by decide +kernel
theorem dX5_copy_184 : decode cX5_copy 184 = .ok (.isub, 1) := by decide +kernel
theorem dX5_copy_185 : decode cX5_copy 185 = .ok (.goto 5, 3) := by decide +kernel
theorem dX5_copy_188 : decode cX5_copy 188 = .ok (.iload 8, 2) := by decide +kernel
theorem dX5_copy_190 : decode cX5_copy 190 = .ok (.istore 9, 2) := by decide +kernel
theorem dX5_copy_192 : decode cX5_copy 192 = .ok (.aload_n 0, 1) := by decide +kernel
theorem dX5_copy_193 : decode cX5_copy 193 = .ok (.getfield 16, 3) := by decide +kernel
theorem dX5_copy_196 : decode cX5_copy 196 = .ok (.bipush 60, 2) := by decide +kernel
theorem dX5_copy_198 : decode cX5_copy 198 = .ok (.iload_n 3, 1) := by decide +kernel
theorem dX5_copy_199 : decode cX5_copy 199 = .ok (.imul, 1) := by decide +kernel
theorem dX5_copy_200 : decode cX5_copy 200 = .ok (.iload 4, 2) := by decide +kernel
theorem dX5_copy_202 : decode cX5_copy 202 = .ok (.iadd, 1) := by decide +kernel
theorem dX5_copy_203 : decode cX5_copy 203 = .ok (.iload 9, 2) := by decide +kernel
theorem dX5_copy_205 : decode cX5_copy 205 = .ok (.iadd, 1) := by decide +kernel
theorem dX5_copy_206 : decode cX5_copy 206 = .ok (.aload_n 0, 1) := by decide +kernel
theorem dX5_copy_207 : decode cX5_copy 207 = .ok (.getfield 16, 3) := by decide +kernel
theorem dX5_copy_210 : decode cX5_copy 210 = .ok (.bipush 60, 2) := by decide +kernel
theorem dX5_copy_212 : decode cX5_copy 212 = .ok (.iload_n 1, 1) := by decide +kernel
theorem dX5_copy_213 : decode cX5_copy 213 = .ok (.imul, 1) := by decide +kernel
theorem dX5_copy_214 : decode cX5_copy 214 = .ok (.iload_n 2, 1) := by decide +kernel
theorem dX5_copy_215 : decode cX5_copy 215 = .ok (.iadd, 1) := by decide +kernel
theorem dX5_copy_216 : decode cX5_copy 216 = .ok (.iload 9, 2) := by decide +kernel
theorem dX5_copy_218 : decode cX5_copy 218 = .ok (.iadd, 1) := by decide +kernel
theorem dX5_copy_219 : decode cX5_copy 219 = .ok (.iaload, 1) := by decide +kernel
theorem dX5_copy_220 : decode cX5_copy 220 = .ok (.iastore, 1) := by decide +kernel
theorem dX5_copy_221 : decode cX5_copy 221 = .ok (.iinc 8 1, 3) := by decide +kernel
theorem dX5_copy_224 : decode cX5_copy 224 = .ok (.goto (-58), 3) := by decide +kernel
theorem dX5_copy_227 : decode cX5_copy 227 = .ok (.iload 5, 2) := by decide +kernel
theorem dX5_copy_229 : decode cX5_copy 229 = .ok (.ireturn, 1) := by decide +kernel
theorem dX5_begins_0 : decode cX5_begins 0 = .ok (.aload_n 0, 1) := by decide +kernel
theorem dX5_begins_1 : decode cX5_begins 1 = .ok (.bipush 31, 2) := by decide +kernel
theorem dX5_begins_3 : decode cX5_begins 3 = .ok (.aload_n 0, 1) := by decide +kernel
theorem dX5_begins_4 : decode cX5_begins 4 = .ok (.getfield 233, 3) := by decide +kernel
theorem dX5_begins_7 : decode cX5_begins 7 = .ok (.imul, 1) := by decide +kernel
theorem dX5_begins_8 : decode cX5_begins 8 = .ok (.iload_n 1, 1) := by decide +kernel
theorem dX5_begins_9 : decode cX5_begins 9 = .ok (.iadd, 1) := by decide +kernel
theorem dX5_begins_10 : decode cX5_begins 10 = .ok (.putfield 233, 3) := by decide +kernel
theorem dX5_begins_13 : decode cX5_begins 13 = .ok (.return_, 1) := by decide +kernel
theorem dX5_tell_0 : decode cX5_tell 0 = .ok (.aload_n 0, 1) := by decide +kernel
theorem dX5_tell_1 : decode cX5_tell 1 = .ok (.iload_n 1, 1) := by decide +kernel
theorem dX5_tell_2 : decode cX5_tell 2 = .ok (.invokevirtual 127, 3) := by decide +kernel
theorem dX5_tell_5 : decode cX5_tell 5 = .ok (.ifCond .ne 5, 3) := by decide +kernel
theorem dX5_tell_8 : decode cX5_tell 8 = .ok (.iconst (-1), 1) := by decide +kernel
theorem dX5_tell_9 : decode cX5_tell 9 = .ok (.ireturn, 1) := by decide +kernel
theorem dX5_tell_10 : decode cX5_tell 10 = .ok (.aload_n 0, 1) := by decide +kernel
theorem dX5_tell_11 : decode cX5_tell 11 = .ok (.getfield 28, 3) := by decide +kernel
theorem dX5_tell_14 : decode cX5_tell 14 = .ok (.iload_n 1, 1) := by decide +kernel
theorem dX5_tell_15 : decode cX5_tell 15 = .ok (.iaload, 1) := by decide +kernel
theorem dX5_tell_16 : decode cX5_tell 16 = .ok (.istore_n 2, 1) := by decide +kernel
theorem dX5_tell_17 : decode cX5_tell 17 = .ok (.aload_n 0, 1) := by decide +kernel
theorem dX5_tell_18 : decode cX5_tell 18 = .ok (.getfield 22, 3) := by decide +kernel
theorem dX5_tell_21 : decode cX5_tell 21 = .ok (.iload_n 1, 1) := by decide +kernel
theorem dX5_tell_22 : decode cX5_tell 22 = .ok (.iaload, 1) := by decide +kernel
theorem dX5_tell_23 : decode cX5_tell 23 = .ok (.lookupswitch 67 #[(1, 25), (2, 40)], 25) := by decide +kernel
theorem dX5_tell_48 : decode cX5_tell 48 = .ok (.aload_n 0, 1) := by decide +kernel
theorem dX5_tell_49 : decode cX5_tell 49 = .ok (.iconst 2, 1) := by decide +kernel
theorem dX5_tell_50 : decode cX5_tell 50 = .ok (.invokevirtual 236, 3) := by decide +kernel
theorem dX5_tell_53 : decode cX5_tell 53 = .ok (.aload_n 0, 1) := by decide +kernel
theorem dX5_tell_54 : decode cX5_tell 54 = .ok (.iconst 1, 1) := by decide +kernel
theorem dX5_tell_55 : decode cX5_tell 55 = .ok (.invokevirtual 236, 3) := by decide +kernel
theorem dX5_tell_58 : decode cX5_tell 58 = .ok (.iload_n 2, 1) := by decide +kernel
theorem dX5_tell_59 : decode cX5_tell 59 = .ok (.bipush 100, 2) := by decide +kernel
theorem dX5_tell_61 : decode cX5_tell 61 = .ok (.iadd, 1) := by decide +kernel
theorem dX5_tell_62 : decode cX5_tell 62 = .ok (.ireturn, 1) := by decide +kernel
theorem dX5_tell_63 : decode cX5_tell 63 = .ok (.aload_n 0, 1) := by decide +kernel
theorem dX5_tell_64 : decode cX5_tell 64 = .ok (.iconst 3, 1) := by decide +kernel
theorem dX5_tell_65 : decode cX5_tell 65 = .ok (.invokevirtual 236, 3) := by decide +kernel
theorem dX5_tell_68 : decode cX5_tell 68 = .ok (.aload_n 0, 1) := by decide +kernel
theorem dX5_tell_69 : decode cX5_tell 69 = .ok (.iconst 2, 1) := by decide +kernel
theorem dX5_tell_70 : decode cX5_tell 70 = .ok (.invokevirtual 236, 3) := by decide +kernel
theorem dX5_tell_73 : decode cX5_tell 73 = .ok (.aload_n 0, 1) := by decide +kernel
theorem dX5_tell_74 : decode cX5_tell 74 = .ok (.iconst 1, 1) := by decide +kernel
theorem dX5_tell_75 : decode cX5_tell 75 = .ok (.invokevirtual 236, 3) := by decide +kernel
theorem dX5_tell_78 : decode cX5_tell 78 = .ok (.aload_n 0, 1) := by decide +kernel
theorem dX5_tell_79 : decode cX5_tell 79 = .ok (.iconst 1, 1) := by decide +kernel
theorem dX5_tell_80 : decode cX5_tell 80 = .ok (.invokevirtual 236, 3) := by decide +kernel
theorem dX5_tell_83 : decode cX5_tell 83 = .ok (.iconst 2, 1) := by decide +kernel
theorem dX5_tell_84 : decode cX5_tell 84 = .ok (.iload_n 2, 1) := by decide +kernel
theorem dX5_tell_85 : decode cX5_tell 85 = .ok (.imul, 1) := by decide +kernel
theorem dX5_tell_86 : decode cX5_tell 86 = .ok (.bipush 100, 2) := by decide +kernel
theorem dX5_tell_88 : decode cX5_tell 88 = .ok (.iadd, 1) := by decide +kernel
theorem dX5_tell_89 : decode cX5_tell 89 = .ok (.ireturn, 1) := by decide +kernel
theorem dX5_tell_90 : decode cX5_tell 90 = .ok (.aload_n 0, 1) := by decide +kernel
theorem dX5_tell_91 : decode cX5_tell 91 = .ok (.iconst 1, 1) := by decide +kernel
theorem dX5_tell_92 : decode cX5_tell 92 = .ok (.invokevirtual 236, 3) := by decide +kernel
theorem dX5_tell_95 : decode cX5_tell 95 = .ok (.iload_n 2, 1) := by decide +kernel
theorem dX5_tell_96 : decode cX5_tell 96 = .ok (.ireturn, 1) := by decide +kernel
theorem dX5_hail_0 : decode cX5_hail 0 = .ok (.aload_n 0, 1) := by decide +kernel
theorem dX5_hail_1 : decode cX5_hail 1 = .ok (.iload_n 1, 1) := by decide +kernel
theorem dX5_hail_2 : decode cX5_hail 2 = .ok (.invokevirtual 127, 3) := by decide +kernel
theorem dX5_hail_5 : decode cX5_hail 5 = .ok (.ifCond .ne 5, 3) := by decide +kernel
theorem dX5_hail_8 : decode cX5_hail 8 = .ok (.iconst (-1), 1) := by decide +kernel
theorem dX5_hail_9 : decode cX5_hail 9 = .ok (.ireturn, 1) := by decide +kernel
theorem dX5_hail_10 : decode cX5_hail 10 = .ok (.aload_n 0, 1) := by decide +kernel
theorem dX5_hail_11 : decode cX5_hail 11 = .ok (.aload_n 0, 1) := by decide +kernel
theorem dX5_hail_12 : decode cX5_hail 12 = .ok (.getfield 22, 3) := by decide +kernel
theorem dX5_hail_15 : decode cX5_hail 15 = .ok (.iload_n 1, 1) := by decide +kernel
theorem dX5_hail_16 : decode cX5_hail 16 = .ok (.iaload, 1) := by decide +kernel
theorem dX5_hail_17 : decode cX5_hail 17 = .ok (.iconst 2, 1) := by decide +kernel
theorem dX5_hail_18 : decode cX5_hail 18 = .ok (.if_icmp .ne 7, 3) := by decide +kernel
theorem dX5_hail_21 : decode cX5_hail 21 = .ok (.iconst 5, 1) := by decide +kernel
theorem dX5_hail_22 : decode cX5_hail 22 = .ok (.goto 4, 3) := by decide +kernel
theorem dX5_hail_25 : decode cX5_hail 25 = .ok (.iconst 4, 1) := by decide +kernel
theorem dX5_hail_26 : decode cX5_hail 26 = .ok (.invokevirtual 236, 3) := by decide +kernel
theorem dX5_hail_29 : decode cX5_hail 29 = .ok (.aload_n 0, 1) := by decide +kernel
theorem dX5_hail_30 : decode cX5_hail 30 = .ok (.getfield 22, 3) := by decide +kernel
theorem dX5_hail_33 : decode cX5_hail 33 = .ok (.iload_n 1, 1) := by decide +kernel
theorem dX5_hail_34 : decode cX5_hail 34 = .ok (.iaload, 1) := by decide +kernel
theorem dX5_hail_35 : decode cX5_hail 35 = .ok (.iconst 2, 1) := by decide +kernel
theorem dX5_hail_36 : decode cX5_hail 36 = .ok (.if_icmp .ne 8, 3) := by decide +kernel
theorem dX5_hail_39 : decode cX5_hail 39 = .ok (.bipush 60, 2) := by decide +kernel
theorem dX5_hail_41 : decode cX5_hail 41 = .ok (.goto 9, 3) := by decide +kernel
theorem dX5_hail_44 : decode cX5_hail 44 = .ok (.aload_n 0, 1) := by decide +kernel
theorem dX5_hail_45 : decode cX5_hail 45 = .ok (.getfield 25, 3) := by decide +kernel
theorem dX5_hail_48 : decode cX5_hail 48 = .ok (.iload_n 1, 1) := by decide +kernel
theorem dX5_hail_49 : decode cX5_hail 49 = .ok (.iaload, 1) := by decide +kernel
theorem dX5_hail_50 : decode cX5_hail 50 = .ok (.ireturn, 1) := by decide +kernel
theorem dX5_as_0 : decode cX5_as 0 = .ok (.aload_n 0, 1) := by decide +kernel
theorem dX5_as_1 : decode cX5_as 1 = .ok (.iconst 0, 1) := by decide +kernel
theorem dX5_as_2 : decode cX5_as 2 = .ok (.putfield 61, 3) := by decide +kernel
theorem dX5_as_5 : decode cX5_as 5 = .ok (.aload_n 0, 1) := by decide +kernel
theorem dX5_as_6 : decode cX5_as 6 = .ok (.iload_n 1, 1) := by decide +kernel
theorem dX5_as_7 : decode cX5_as 7 = .ok (.invokevirtual 127, 3) := by decide +kernel
theorem dX5_as_10 : decode cX5_as 10 = .ok (.ifCond .ne 5, 3) := by decide +kernel
theorem dX5_as_13 : decode cX5_as 13 = .ok (.iconst (-1), 1) := by decide +kernel
theorem dX5_as_14 : decode cX5_as 14 = .ok (.ireturn, 1) := by decide +kernel
theorem dX5_as_15 : decode cX5_as 15 = .ok (.iload_n 2, 1) := by decide +kernel
theorem dX5_as_16 : decode cX5_as 16 = .ok (.iconst 0, 1) := by decide +kernel
theorem dX5_as_17 : decode cX5_as 17 = .ok (.iconst 2, 1) := by decide +kernel
theorem dX5_as_18 : decode cX5_as 18 = .ok (.invokestatic 67, 3) := by decide +kernel
theorem dX5_as_21 : decode cX5_as 21 = .ok (.ifCond .ne 6, 3) := by decide +kernel
theorem dX5_as_24 : decode cX5_as 24 = .ok (.bipush (-2), 2) := by decide +kernel
theorem dX5_as_26 : decode cX5_as 26 = .ok (.ireturn, 1) := by decide +kernel
theorem dX5_as_27 : decode cX5_as 27 = .ok (.aload_n 0, 1) := by decide +kernel
theorem dX5_as_28 : decode cX5_as 28 = .ok (.getfield 22, 3) := by decide +kernel
theorem dX5_as_31 : decode cX5_as 31 = .ok (.iload_n 1, 1) := by decide +kernel
theorem dX5_as_32 : decode cX5_as 32 = .ok (.iaload, 1) := by decide +kernel
theorem dX5_as_33 : decode cX5_as 33 = .ok (.iload_n 2, 1) := by decide +kernel
theorem dX5_as_34 : decode cX5_as 34 = .ok (.if_icmp .lt 7, 3) := by decide +kernel
theorem dX5_as_37 : decode cX5_as 37 = .ok (.iconst 1, 1) := by decide +kernel
theorem dX5_as_38 : decode cX5_as 38 = .ok (.goto 8, 3) := by decide +kernel
theorem dX5_as_41 : decode cX5_as 41 = .ok (.aload_n 0, 1) := by decide +kernel
theorem dX5_as_42 : decode cX5_as 42 = .ok (.iconst 2, 1) := by decide +kernel
theorem dX5_as_43 : decode cX5_as 43 = .ok (.invokevirtual 91, 3) := by decide +kernel
theorem dX5_as_46 : decode cX5_as 46 = .ok (.ireturn, 1) := by decide +kernel
theorem dX5_trace_0 : decode cX5_trace 0 = .ok (.aload_n 0, 1) := by decide +kernel
theorem dX5_trace_1 : decode cX5_trace 1 = .ok (.getfield 233, 3) := by decide +kernel
theorem dX5_trace_4 : decode cX5_trace 4 = .ok (.ireturn, 1) := by decide +kernel
theorem dX5_fault_0 : decode cX5_fault 0 = .ok (.aload_n 0, 1) := by decide +kernel
theorem dX5_fault_1 : decode cX5_fault 1 = .ok (.getfield 61, 3) := by decide +kernel
theorem dX5_fault_4 : decode cX5_fault 4 = .ok (.ireturn, 1) := by decide +kernel
end
section
theorem dX5_many_0 : decode cX5_many 0 = .ok (.iload_n 1, 1) := by decide +kernel
theorem dX5_many_1 : decode cX5_many 1 = .ok (.tableswitch 63 0 4 #[35, 40, 45, 50, 58], 35) := by decide +kernel
theorem dX5_many_36 : decode cX5_many 36 = .ok (.aload_n 0, 1) := by decide +kernel
theorem dX5_many_37 : decode cX5_many 37 = .ok (.getfield 71, 3) := by decide +kernel
theorem dX5_many_40 : decode cX5_many 40 = .ok (.ireturn, 1) := by decide +kernel
theorem dX5_many_41 : decode cX5_many 41 = .ok (.aload_n 0, 1) := by decide +kernel
theorem dX5_many_42 : decode cX5_many 42 = .ok (.getfield 74, 3) := by decide +kernel
theorem dX5_many_45 : decode cX5_many 45 = .ok (.ireturn, 1) := by decide +kernel
theorem dX5_many_46 : decode cX5_many 46 = .ok (.aload_n 0, 1) := by decide +kernel
theorem dX5_many_47 : decode cX5_many 47 = .ok (.getfield 107, 3) := by decide +kernel
theorem dX5_many_50 : decode cX5_many 50 = .ok (.ireturn, 1) := by decide +kernel
theorem dX5_many_51 : decode cX5_many 51 = .ok (.aload_n 0, 1) := by decide +kernel
theorem dX5_many_52 : decode cX5_many 52 = .ok (.invokevirtual 189, 3) := by decide +kernel
theorem dX5_many_55 : decode cX5_many 55 = .ok (.invokestatic 212, 3) := by decide +kernel
theorem dX5_many_58 : decode cX5_many 58 = .ok (.ireturn, 1) := by decide +kernel
theorem dX5_many_59 : decode cX5_many 59 = .ok (.aload_n 0, 1) := by decide +kernel
theorem dX5_many_60 : decode cX5_many 60 = .ok (.getfield 110, 3) := by decide +kernel
theorem dX5_many_63 : decode cX5_many 63 = .ok (.ireturn, 1) := by decide +kernel
theorem dX5_many_64 : decode cX5_many 64 = .ok (.bipush (-2), 2) := by decide +kernel
theorem dX5_many_66 : decode cX5_many 66 = .ok (.ireturn, 1) := by decide +kernel
end
section
theorem dL_law_0 : decode cL_law 0 = .ok (.new 7, 3) := by decide +kernel
theorem dL_law_3 : decode cL_law 3 = .ok (.dup, 1) := by decide +kernel
theorem dL_law_4 : decode cL_law 4 = .ok (.invokespecial 9, 3) := by decide +kernel
theorem dL_law_7 : decode cL_law 7 = .ok (.astore_n 1, 1) := by decide +kernel
theorem dL_law_8 : decode cL_law 8 = .ok (.new 10, 3) := by decide +kernel
theorem dL_law_11 : decode cL_law 11 = .ok (.dup, 1) := by decide +kernel
theorem dL_law_12 : decode cL_law 12 = .ok (.invokespecial 12, 3) := by decide +kernel
theorem dL_law_15 : decode cL_law 15 = .ok (.astore_n 2, 1) := by decide +kernel
theorem dL_law_16 : decode cL_law 16 = .ok (.iconst 0, 1) := by decide +kernel
theorem dL_law_17 : decode cL_law 17 = .ok (.istore_n 3, 1) := by decide +kernel
theorem dL_law_18 : decode cL_law 18 = .ok (.iload_n 3, 1) := by decide +kernel
theorem dL_law_19 : decode cL_law 19 = .ok (.aload_n 0, 1) := by decide +kernel
theorem dL_law_20 : decode cL_law 20 = .ok (.arraylength, 1) := by decide +kernel
theorem dL_law_21 : decode cL_law 21 = .ok (.bipush 6, 2) := by decide +kernel
theorem dL_law_23 : decode cL_law 23 = .ok (.isub, 1) := by decide +kernel
theorem dL_law_24 : decode cL_law 24 = .ok (.if_icmp .gt 1230, 3) := by decide +kernel
theorem dL_law_27 : decode cL_law 27 = .ok (.aload_n 0, 1) := by decide +kernel
theorem dL_law_28 : decode cL_law 28 = .ok (.iload_n 3, 1) := by decide +kernel
theorem dL_law_29 : decode cL_law 29 = .ok (.iaload, 1) := by decide +kernel
theorem dL_law_30 : decode cL_law 30 = .ok (.bipush 31, 2) := by decide +kernel
theorem dL_law_32 : decode cL_law 32 = .ok (.iand, 1) := by decide +kernel
theorem dL_law_33 : decode cL_law 33 = .ok (.tableswitch 1215 0 30 #[139, 192, 225, 248, 281, 314, 337, 380, 423, 486, 509, 552, 605, 618, 661, 684, 707, 730, 793, 837, 871, 914, 937, 980, 1024, 1087, 1110, 1133, 1166, 1179, 1192], 139) := by decide +kernel
theorem dL_law_172 : decode cL_law 172 = .ok (.aload_n 1, 1) := by decide +kernel
theorem dL_law_173 : decode cL_law 173 = .ok (.aload_n 0, 1) := by decide +kernel
theorem dL_law_174 : decode cL_law 174 = .ok (.iload_n 3, 1) := by decide +kernel
theorem dL_law_175 : decode cL_law 175 = .ok (.iconst 1, 1) := by decide +kernel
theorem dL_law_176 : decode cL_law 176 = .ok (.iadd, 1) := by decide +kernel
theorem dL_law_177 : decode cL_law 177 = .ok (.iaload, 1) := by decide +kernel
theorem dL_law_178 : decode cL_law 178 = .ok (.aload_n 0, 1) := by decide +kernel
theorem dL_law_179 : decode cL_law 179 = .ok (.iload_n 3, 1) := by decide +kernel
theorem dL_law_180 : decode cL_law 180 = .ok (.iconst 2, 1) := by decide +kernel
theorem dL_law_181 : decode cL_law 181 = .ok (.iadd, 1) := by decide +kernel
theorem dL_law_182 : decode cL_law 182 = .ok (.iaload, 1) := by decide +kernel
theorem dL_law_183 : decode cL_law 183 = .ok (.aload_n 0, 1) := by decide +kernel
theorem dL_law_184 : decode cL_law 184 = .ok (.iload_n 3, 1) := by decide +kernel
theorem dL_law_185 : decode cL_law 185 = .ok (.iconst 3, 1) := by decide +kernel
theorem dL_law_186 : decode cL_law 186 = .ok (.iadd, 1) := by decide +kernel
theorem dL_law_187 : decode cL_law 187 = .ok (.iaload, 1) := by decide +kernel
theorem dL_law_188 : decode cL_law 188 = .ok (.aload_n 0, 1) := by decide +kernel
theorem dL_law_189 : decode cL_law 189 = .ok (.iload_n 3, 1) := by decide +kernel
theorem dL_law_190 : decode cL_law 190 = .ok (.iconst 4, 1) := by decide +kernel
theorem dL_law_191 : decode cL_law 191 = .ok (.iadd, 1) := by decide +kernel
theorem dL_law_192 : decode cL_law 192 = .ok (.iaload, 1) := by decide +kernel
theorem dL_law_193 : decode cL_law 193 = .ok (.invokevirtual 13, 3) := by decide +kernel
theorem dL_law_196 : decode cL_law 196 = .ok (.aload_n 2, 1) := by decide +kernel
theorem dL_law_197 : decode cL_law 197 = .ok (.aload_n 0, 1) := by decide +kernel
theorem dL_law_198 : decode cL_law 198 = .ok (.iload_n 3, 1) := by decide +kernel
theorem dL_law_199 : decode cL_law 199 = .ok (.iconst 1, 1) := by decide +kernel
theorem dL_law_200 : decode cL_law 200 = .ok (.iadd, 1) := by decide +kernel
theorem dL_law_201 : decode cL_law 201 = .ok (.iaload, 1) := by decide +kernel
theorem dL_law_202 : decode cL_law 202 = .ok (.aload_n 0, 1) := by decide +kernel
theorem dL_law_203 : decode cL_law 203 = .ok (.iload_n 3, 1) := by decide +kernel
theorem dL_law_204 : decode cL_law 204 = .ok (.iconst 2, 1) := by decide +kernel
theorem dL_law_205 : decode cL_law 205 = .ok (.iadd, 1) := by decide +kernel
theorem dL_law_206 : decode cL_law 206 = .ok (.iaload, 1) := by decide +kernel
theorem dL_law_207 : decode cL_law 207 = .ok (.aload_n 0, 1) := by decide +kernel
theorem dL_law_208 : decode cL_law 208 = .ok (.iload_n 3, 1) := by decide +kernel
theorem dL_law_209 : decode cL_law 209 = .ok (.iconst 3, 1) := by decide +kernel
theorem dL_law_210 : decode cL_law 210 = .ok (.iadd, 1) := by decide +kernel
theorem dL_law_211 : decode cL_law 211 = .ok (.iaload, 1) := by decide +kernel
theorem dL_law_212 : decode cL_law 212 = .ok (.aload_n 0, 1) := by decide +kernel
theorem dL_law_213 : decode cL_law 213 = .ok (.iload_n 3, 1) := by decide +kernel
theorem dL_law_214 : decode cL_law 214 = .ok (.iconst 4, 1) := by decide +kernel
theorem dL_law_215 : decode cL_law 215 = .ok (.iadd, 1) := by decide +kernel
theorem dL_law_216 : decode cL_law 216 = .ok (.iaload, 1) := by decide +kernel
theorem dL_law_217 : decode cL_law 217 = .ok (.invokevirtual 17, 3) := by decide +kernel
theorem dL_law_220 : decode cL_law 220 = .ok (.if_icmp .eq 1028, 3) := by decide +kernel
theorem dL_law_223 : decode cL_law 223 = .ok (.iconst 0, 1) := by decide +kernel
theorem dL_law_224 : decode cL_law 224 = .ok (.ireturn, 1) := by decide +kernel
theorem dL_law_225 : decode cL_law 225 = .ok (.aload_n 1, 1) := by decide +kernel
theorem dL_law_226 : decode cL_law 226 = .ok (.aload_n 0, 1) := by decide +kernel
theorem dL_law_227 : decode cL_law 227 = .ok (.iload_n 3, 1) := by decide +kernel
theorem dL_law_228 : decode cL_law 228 = .ok (.iconst 1, 1) := by decide +kernel
theorem dL_law_229 : decode cL_law 229 = .ok (.iadd, 1) := by decide +kernel
theorem dL_law_230 : decode cL_law 230 = .ok (.iaload, 1) := by decide +kernel
theorem dL_law_231 : decode cL_law 231 = .ok (.aload_n 0, 1) := by decide +kernel
theorem dL_law_232 : decode cL_law 232 = .ok (.iload_n 3, 1) := by decide +kernel
theorem dL_law_233 : decode cL_law 233 = .ok (.iconst 2, 1) := by decide +kernel
theorem dL_law_234 : decode cL_law 234 = .ok (.iadd, 1) := by decide +kernel
theorem dL_law_235 : decode cL_law 235 = .ok (.iaload, 1) := by decide +kernel
theorem dL_law_236 : decode cL_law 236 = .ok (.invokevirtual 18, 3) := by decide +kernel
theorem dL_law_239 : decode cL_law 239 = .ok (.aload_n 2, 1) := by decide +kernel
theorem dL_law_240 : decode cL_law 240 = .ok (.aload_n 0, 1) := by decide +kernel
theorem dL_law_241 : decode cL_law 241 = .ok (.iload_n 3, 1) := by decide +kernel
theorem dL_law_242 : decode cL_law 242 = .ok (.iconst 1, 1) := by decide +kernel
theorem dL_law_243 : decode cL_law 243 = .ok (.iadd, 1) := by decide +kernel
theorem dL_law_244 : decode cL_law 244 = .ok (.iaload, 1) := by decide +kernel
theorem dL_law_245 : decode cL_law 245 = .ok (.aload_n 0, 1) := by decide +kernel
theorem dL_law_246 : decode cL_law 246 = .ok (.iload_n 3, 1) := by decide +kernel
theorem dL_law_247 : decode cL_law 247 = .ok (.iconst 2, 1) := by decide +kernel
theorem dL_law_248 : decode cL_law 248 = .ok (.iadd, 1) := by decide +kernel
theorem dL_law_249 : decode cL_law 249 = .ok (.iaload, 1) := by decide +kernel
theorem dL_law_250 : decode cL_law 250 = .ok (.invokevirtual 22, 3) := by decide +kernel
theorem dL_law_253 : decode cL_law 253 = .ok (.if_icmp .eq 995, 3) := by decide +kernel
theorem dL_law_256 : decode cL_law 256 = .ok (.iconst 0, 1) := by decide +kernel
theorem dL_law_257 : decode cL_law 257 = .ok (.ireturn, 1) := by decide +kernel
theorem dL_law_258 : decode cL_law 258 = .ok (.aload_n 1, 1) := by decide +kernel
theorem dL_law_259 : decode cL_law 259 = .ok (.aload_n 0, 1) := by decide +kernel
theorem dL_law_260 : decode cL_law 260 = .ok (.iload_n 3, 1) := by decide +kernel
theorem dL_law_261 : decode cL_law 261 = .ok (.iconst 1, 1) := by decide +kernel
theorem dL_law_262 : decode cL_law 262 = .ok (.iadd, 1) := by decide +kernel
theorem dL_law_263 : decode cL_law 263 = .ok (.iaload, 1) := by decide +kernel
theorem dL_law_264 : decode cL_law 264 = .ok (.invokevirtual 23, 3) := by decide +kernel
theorem dL_law_267 : decode cL_law 267 = .ok (.aload_n 2, 1) := by decide +kernel
theorem dL_law_268 : decode cL_law 268 = .ok (.aload_n 0, 1) := by decide +kernel
theorem dL_law_269 : decode cL_law 269 = .ok (.iload_n 3, 1) := by decide +kernel
theorem dL_law_270 : decode cL_law 270 = .ok (.iconst 1, 1) := by decide +kernel
theorem dL_law_271 : decode cL_law 271 = .ok (.iadd, 1) := by decide +kernel
theorem dL_law_272 : decode cL_law 272 = .ok (.iaload, 1) := by decide +kernel
theorem dL_law_273 : decode cL_law 273 = .ok (.invokevirtual 27, 3) := by decide +kernel
theorem dL_law_276 : decode cL_law 276 = .ok (.if_icmp .eq 972, 3) := by decide +kernel
theorem dL_law_279 : decode cL_law 279 = .ok (.iconst 0, 1) := by decide +kernel
theorem dL_law_280 : decode cL_law 280 = .ok (.ireturn, 1) := by decide +kernel
theorem dL_law_281 : decode cL_law 281 = .ok (.aload_n 1, 1) := by decide +kernel
theorem dL_law_282 : decode cL_law 282 = .ok (.aload_n 0, 1) := by decide +kernel
theorem dL_law_283 : decode cL_law 283 = .ok (.iload_n 3, 1) := by decide +kernel
theorem dL_law_284 : decode cL_law 284 = .ok (.iconst 1, 1) := by decide +kernel
theorem dL_law_285 : decode cL_law 285 = .ok (.iadd, 1) := by decide +kernel
theorem dL_law_286 : decode cL_law 286 = .ok (.iaload, 1) := by decide +kernel
theorem dL_law_287 : decode cL_law 287 = .ok (.aload_n 0, 1) := by decide +kernel
theorem dL_law_288 : decode cL_law 288 = .ok (.iload_n 3, 1) := by decide +kernel
theorem dL_law_289 : decode cL_law 289 = .ok (.iconst 2, 1) := by decide +kernel
theorem dL_law_290 : decode cL_law 290 = .ok (.iadd, 1) := by decide +kernel
theorem dL_law_291 : decode cL_law 291 = .ok (.iaload, 1) := by decide +kernel
theorem dL_law_292 : decode cL_law 292 = .ok (.invokevirtual 28, 3) := by decide +kernel
theorem dL_law_295 : decode cL_law 295 = .ok (.aload_n 2, 1) := by decide +kernel
theorem dL_law_296 : decode cL_law 296 = .ok (.aload_n 0, 1) := by decide +kernel
theorem dL_law_297 : decode cL_law 297 = .ok (.iload_n 3, 1) := by decide +kernel
theorem dL_law_298 : decode cL_law 298 = .ok (.iconst 1, 1) := by decide +kernel
theorem dL_law_299 : decode cL_law 299 = .ok (.iadd, 1) := by decide +kernel
theorem dL_law_300 : decode cL_law 300 = .ok (.iaload, 1) := by decide +kernel
theorem dL_law_301 : decode cL_law 301 = .ok (.aload_n 0, 1) := by decide +kernel
theorem dL_law_302 : decode cL_law 302 = .ok (.iload_n 3, 1) := by decide +kernel
theorem dL_law_303 : decode cL_law 303 = .ok (.iconst 2, 1) := by decide +kernel
theorem dL_law_304 : decode cL_law 304 = .ok (.iadd, 1) := by decide +kernel
theorem dL_law_305 : decode cL_law 305 = .ok (.iaload, 1) := by decide +kernel
theorem dL_law_306 : decode cL_law 306 = .ok (.invokevirtual 31, 3) := by decide +kernel
theorem dL_law_309 : decode cL_law 309 = .ok (.if_icmp .eq 939, 3) := by decide +kernel
theorem dL_law_312 : decode cL_law 312 = .ok (.iconst 0, 1) := by decide +kernel
theorem dL_law_313 : decode cL_law 313 = .ok (.ireturn, 1) := by decide +kernel
theorem dL_law_314 : decode cL_law 314 = .ok (.aload_n 1, 1) := by decide +kernel
theorem dL_law_315 : decode cL_law 315 = .ok (.aload_n 0, 1) := by decide +kernel
theorem dL_law_316 : decode cL_law 316 = .ok (.iload_n 3, 1) := by decide +kernel
theorem dL_law_317 : decode cL_law 317 = .ok (.iconst 1, 1) := by decide +kernel
theorem dL_law_318 : decode cL_law 318 = .ok (.iadd, 1) := by decide +kernel
theorem dL_law_319 : decode cL_law 319 = .ok (.iaload, 1) := by decide +kernel
theorem dL_law_320 : decode cL_law 320 = .ok (.aload_n 0, 1) := by decide +kernel
theorem dL_law_321 : decode cL_law 321 = .ok (.iload_n 3, 1) := by decide +kernel
theorem dL_law_322 : decode cL_law 322 = .ok (.iconst 2, 1) := by decide +kernel
theorem dL_law_323 : decode cL_law 323 = .ok (.iadd, 1) := by decide +kernel
theorem dL_law_324 : decode cL_law 324 = .ok (.iaload, 1) := by decide +kernel
theorem dL_law_325 : decode cL_law 325 = .ok (.invokevirtual 32, 3) := by decide +kernel
theorem dL_law_328 : decode cL_law 328 = .ok (.aload_n 2, 1) := by decide +kernel
theorem dL_law_329 : decode cL_law 329 = .ok (.aload_n 0, 1) := by decide +kernel
theorem dL_law_330 : decode cL_law 330 = .ok (.iload_n 3, 1) := by decide +kernel
theorem dL_law_331 : decode cL_law 331 = .ok (.iconst 1, 1) := by decide +kernel
theorem dL_law_332 : decode cL_law 332 = .ok (.iadd, 1) := by decide +kernel
theorem dL_law_333 : decode cL_law 333 = .ok (.iaload, 1) := by decide +kernel
theorem dL_law_334 : decode cL_law 334 = .ok (.aload_n 0, 1) := by decide +kernel
theorem dL_law_335 : decode cL_law 335 = .ok (.iload_n 3, 1) := by decide +kernel
theorem dL_law_336 : decode cL_law 336 = .ok (.iconst 2, 1) := by decide +kernel
theorem dL_law_337 : decode cL_law 337 = .ok (.iadd, 1) := by decide +kernel
theorem dL_law_338 : decode cL_law 338 = .ok (.iaload, 1) := by decide +kernel
theorem dL_law_339 : decode cL_law 339 = .ok (.invokevirtual 35, 3) := by decide +kernel
theorem dL_law_342 : decode cL_law 342 = .ok (.if_icmp .eq 906, 3) := by decide +kernel
theorem dL_law_345 : decode cL_law 345 = .ok (.iconst 0, 1) := by decide +kernel
theorem dL_law_346 : decode cL_law 346 = .ok (.ireturn, 1) := by decide +kernel
theorem dL_law_347 : decode cL_law 347 = .ok (.aload_n 1, 1) := by decide +kernel
theorem dL_law_348 : decode cL_law 348 = .ok (.aload_n 0, 1) := by decide +kernel
theorem dL_law_349 : decode cL_law 349 = .ok (.iload_n 3, 1) := by decide +kernel
theorem dL_law_350 : decode cL_law 350 = .ok (.iconst 1, 1) := by decide +kernel
theorem dL_law_351 : decode cL_law 351 = .ok (.iadd, 1) := by decide +kernel
theorem dL_law_352 : decode cL_law 352 = .ok (.iaload, 1) := by decide +kernel
theorem dL_law_353 : decode cL_law 353 = .ok (.invokevirtual 36, 3) := by decide +kernel
theorem dL_law_356 : decode cL_law 356 = .ok (.aload_n 2, 1) := by decide +kernel
theorem dL_law_357 : decode cL_law 357 = .ok (.aload_n 0, 1) := by decide +kernel
theorem dL_law_358 : decode cL_law 358 = .ok (.iload_n 3, 1) := by decide +kernel
theorem dL_law_359 : decode cL_law 359 = .ok (.iconst 1, 1) := by decide +kernel
theorem dL_law_360 : decode cL_law 360 = .ok (.iadd, 1) := by decide +kernel
theorem dL_law_361 : decode cL_law 361 = .ok (.iaload, 1) := by decide +kernel
theorem dL_law_362 : decode cL_law 362 = .ok (.invokevirtual 39, 3) := by decide +kernel
theorem dL_law_365 : decode cL_law 365 = .ok (.if_icmp .eq 883, 3) := by decide +kernel
theorem dL_law_368 : decode cL_law 368 = .ok (.iconst 0, 1) := by decide +kernel
theorem dL_law_369 : decode cL_law 369 = .ok (.ireturn, 1) := by decide +kernel
theorem dL_law_370 : decode cL_law 370 = .ok (.aload_n 1, 1) := by decide +kernel
theorem dL_law_371 : decode cL_law 371 = .ok (.aload_n 0, 1) := by decide +kernel
theorem dL_law_372 : decode cL_law 372 = .ok (.iload_n 3, 1) := by decide +kernel
theorem dL_law_373 : decode cL_law 373 = .ok (.iconst 1, 1) := by decide +kernel
theorem dL_law_374 : decode cL_law 374 = .ok (.iadd, 1) := by decide +kernel
theorem dL_law_375 : decode cL_law 375 = .ok (.iaload, 1) := by decide +kernel
theorem dL_law_376 : decode cL_law 376 = .ok (.aload_n 0, 1) := by decide +kernel
theorem dL_law_377 : decode cL_law 377 = .ok (.iload_n 3, 1) := by decide +kernel
theorem dL_law_378 : decode cL_law 378 = .ok (.iconst 2, 1) := by decide +kernel
theorem dL_law_379 : decode cL_law 379 = .ok (.iadd, 1) := by decide +kernel
theorem dL_law_380 : decode cL_law 380 = .ok (.iaload, 1) := by decide +kernel
theorem dL_law_381 : decode cL_law 381 = .ok (.aload_n 0, 1) := by decide +kernel
theorem dL_law_382 : decode cL_law 382 = .ok (.iload_n 3, 1) := by decide +kernel
theorem dL_law_383 : decode cL_law 383 = .ok (.iconst 3, 1) := by decide +kernel
theorem dL_law_384 : decode cL_law 384 = .ok (.iadd, 1) := by decide +kernel
theorem dL_law_385 : decode cL_law 385 = .ok (.iaload, 1) := by decide +kernel
theorem dL_law_386 : decode cL_law 386 = .ok (.invokevirtual 40, 3) := by decide +kernel
theorem dL_law_389 : decode cL_law 389 = .ok (.aload_n 2, 1) := by decide +kernel
theorem dL_law_390 : decode cL_law 390 = .ok (.aload_n 0, 1) := by decide +kernel
theorem dL_law_391 : decode cL_law 391 = .ok (.iload_n 3, 1) := by decide +kernel
theorem dL_law_392 : decode cL_law 392 = .ok (.iconst 1, 1) := by decide +kernel
theorem dL_law_393 : decode cL_law 393 = .ok (.iadd, 1) := by decide +kernel
theorem dL_law_394 : decode cL_law 394 = .ok (.iaload, 1) := by decide +kernel
theorem dL_law_395 : decode cL_law 395 = .ok (.aload_n 0, 1) := by decide +kernel
theorem dL_law_396 : decode cL_law 396 = .ok (.iload_n 3, 1) := by decide +kernel
theorem dL_law_397 : decode cL_law 397 = .ok (.iconst 2, 1) := by decide +kernel
theorem dL_law_398 : decode cL_law 398 = .ok (.iadd, 1) := by decide +kernel
theorem dL_law_399 : decode cL_law 399 = .ok (.iaload, 1) := by decide +kernel
theorem dL_law_400 : decode cL_law 400 = .ok (.aload_n 0, 1) := by decide +kernel
theorem dL_law_401 : decode cL_law 401 = .ok (.iload_n 3, 1) := by decide +kernel
theorem dL_law_402 : decode cL_law 402 = .ok (.iconst 3, 1) := by decide +kernel
theorem dL_law_403 : decode cL_law 403 = .ok (.iadd, 1) := by decide +kernel
theorem dL_law_404 : decode cL_law 404 = .ok (.iaload, 1) := by decide +kernel
theorem dL_law_405 : decode cL_law 405 = .ok (.invokevirtual 44, 3) := by decide +kernel
theorem dL_law_408 : decode cL_law 408 = .ok (.if_icmp .eq 840, 3) := by decide +kernel
theorem dL_law_411 : decode cL_law 411 = .ok (.iconst 0, 1) := by decide +kernel
theorem dL_law_412 : decode cL_law 412 = .ok (.ireturn, 1) := by decide +kernel
theorem dL_law_413 : decode cL_law 413 = .ok (.aload_n 1, 1) := by decide +kernel
theorem dL_law_414 : decode cL_law 414 = .ok (.aload_n 0, 1) := by decide +kernel
theorem dL_law_415 : decode cL_law 415 = .ok (.iload_n 3, 1) := by decide +kernel
theorem dL_law_416 : decode cL_law 416 = .ok (.iconst 1, 1) := by decide +kernel
theorem dL_law_417 : decode cL_law 417 = .ok (.iadd, 1) := by decide +kernel
theorem dL_law_418 : decode cL_law 418 = .ok (.iaload, 1) := by decide +kernel
theorem dL_law_419 : decode cL_law 419 = .ok (.aload_n 0, 1) := by decide +kernel
theorem dL_law_420 : decode cL_law 420 = .ok (.iload_n 3, 1) := by decide +kernel
theorem dL_law_421 : decode cL_law 421 = .ok (.iconst 2, 1) := by decide +kernel
theorem dL_law_422 : decode cL_law 422 = .ok (.iadd, 1) := by decide +kernel
theorem dL_law_423 : decode cL_law 423 = .ok (.iaload, 1) := by decide +kernel
theorem dL_law_424 : decode cL_law 424 = .ok (.aload_n 0, 1) := by decide +kernel
theorem dL_law_425 : decode cL_law 425 = .ok (.iload_n 3, 1) := by decide +kernel
theorem dL_law_426 : decode cL_law 426 = .ok (.iconst 3, 1) := by decide +kernel
theorem dL_law_427 : decode cL_law 427 = .ok (.iadd, 1) := by decide +kernel
theorem dL_law_428 : decode cL_law 428 = .ok (.iaload, 1) := by decide +kernel
theorem dL_law_429 : decode cL_law 429 = .ok (.invokevirtual 45, 3) := by decide +kernel
theorem dL_law_432 : decode cL_law 432 = .ok (.aload_n 2, 1) := by decide +kernel
theorem dL_law_433 : decode cL_law 433 = .ok (.aload_n 0, 1) := by decide +kernel
theorem dL_law_434 : decode cL_law 434 = .ok (.iload_n 3, 1) := by decide +kernel
theorem dL_law_435 : decode cL_law 435 = .ok (.iconst 1, 1) := by decide +kernel
theorem dL_law_436 : decode cL_law 436 = .ok (.iadd, 1) := by decide +kernel
theorem dL_law_437 : decode cL_law 437 = .ok (.iaload, 1) := by decide +kernel
theorem dL_law_438 : decode cL_law 438 = .ok (.aload_n 0, 1) := by decide +kernel
theorem dL_law_439 : decode cL_law 439 = .ok (.iload_n 3, 1) := by decide +kernel
theorem dL_law_440 : decode cL_law 440 = .ok (.iconst 2, 1) := by decide +kernel
theorem dL_law_441 : decode cL_law 441 = .ok (.iadd, 1) := by decide +kernel
theorem dL_law_442 : decode cL_law 442 = .ok (.iaload, 1) := by decide +kernel
theorem dL_law_443 : decode cL_law 443 = .ok (.aload_n 0, 1) := by decide +kernel
theorem dL_law_444 : decode cL_law 444 = .ok (.iload_n 3, 1) := by decide +kernel
theorem dL_law_445 : decode cL_law 445 = .ok (.iconst 3, 1) := by decide +kernel
theorem dL_law_446 : decode cL_law 446 = .ok (.iadd, 1) := by decide +kernel
theorem dL_law_447 : decode cL_law 447 = .ok (.iaload, 1) := by decide +kernel
theorem dL_law_448 : decode cL_law 448 = .ok (.invokevirtual 48, 3) := by decide +kernel
theorem dL_law_451 : decode cL_law 451 = .ok (.if_icmp .eq 797, 3) := by decide +kernel
theorem dL_law_454 : decode cL_law 454 = .ok (.iconst 0, 1) := by decide +kernel
theorem dL_law_455 : decode cL_law 455 = .ok (.ireturn, 1) := by decide +kernel
theorem dL_law_456 : decode cL_law 456 = .ok (.aload_n 1, 1) := by decide +kernel
theorem dL_law_457 : decode cL_law 457 = .ok (.aload_n 0, 1) := by decide +kernel
theorem dL_law_458 : decode cL_law 458 = .ok (.iload_n 3, 1) := by decide +kernel
theorem dL_law_459 : decode cL_law 459 = .ok (.iconst 1, 1) := by decide +kernel
theorem dL_law_460 : decode cL_law 460 = .ok (.iadd, 1) := by decide +kernel
theorem dL_law_461 : decode cL_law 461 = .ok (.iaload, 1) := by decide +kernel
theorem dL_law_462 : decode cL_law 462 = .ok (.aload_n 0, 1) := by decide +kernel
theorem dL_law_463 : decode cL_law 463 = .ok (.iload_n 3, 1) := by decide +kernel
theorem dL_law_464 : decode cL_law 464 = .ok (.iconst 2, 1) := by decide +kernel
theorem dL_law_465 : decode cL_law 465 = .ok (.iadd, 1) := by decide +kernel
theorem dL_law_466 : decode cL_law 466 = .ok (.iaload, 1) := by decide +kernel
theorem dL_law_467 : decode cL_law 467 = .ok (.aload_n 0, 1) := by decide +kernel
theorem dL_law_468 : decode cL_law 468 = .ok (.iload_n 3, 1) := by decide +kernel
theorem dL_law_469 : decode cL_law 469 = .ok (.iconst 3, 1) := by decide +kernel
theorem dL_law_470 : decode cL_law 470 = .ok (.iadd, 1) := by decide +kernel
theorem dL_law_471 : decode cL_law 471 = .ok (.iaload, 1) := by decide +kernel
theorem dL_law_472 : decode cL_law 472 = .ok (.aload_n 0, 1) := by decide +kernel
theorem dL_law_473 : decode cL_law 473 = .ok (.iload_n 3, 1) := by decide +kernel
theorem dL_law_474 : decode cL_law 474 = .ok (.iconst 4, 1) := by decide +kernel
theorem dL_law_475 : decode cL_law 475 = .ok (.iadd, 1) := by decide +kernel
theorem dL_law_476 : decode cL_law 476 = .ok (.iaload, 1) := by decide +kernel
theorem dL_law_477 : decode cL_law 477 = .ok (.aload_n 0, 1) := by decide +kernel
theorem dL_law_478 : decode cL_law 478 = .ok (.iload_n 3, 1) := by decide +kernel
theorem dL_law_479 : decode cL_law 479 = .ok (.iconst 5, 1) := by decide +kernel
theorem dL_law_480 : decode cL_law 480 = .ok (.iadd, 1) := by decide +kernel
theorem dL_law_481 : decode cL_law 481 = .ok (.iaload, 1) := by decide +kernel
theorem dL_law_482 : decode cL_law 482 = .ok (.invokevirtual 49, 3) := by decide +kernel
theorem dL_law_485 : decode cL_law 485 = .ok (.aload_n 2, 1) := by decide +kernel
theorem dL_law_486 : decode cL_law 486 = .ok (.aload_n 0, 1) := by decide +kernel
theorem dL_law_487 : decode cL_law 487 = .ok (.iload_n 3, 1) := by decide +kernel
theorem dL_law_488 : decode cL_law 488 = .ok (.iconst 1, 1) := by decide +kernel
theorem dL_law_489 : decode cL_law 489 = .ok (.iadd, 1) := by decide +kernel
theorem dL_law_490 : decode cL_law 490 = .ok (.iaload, 1) := by decide +kernel
theorem dL_law_491 : decode cL_law 491 = .ok (.aload_n 0, 1) := by decide +kernel
theorem dL_law_492 : decode cL_law 492 = .ok (.iload_n 3, 1) := by decide +kernel
theorem dL_law_493 : decode cL_law 493 = .ok (.iconst 2, 1) := by decide +kernel
theorem dL_law_494 : decode cL_law 494 = .ok (.iadd, 1) := by decide +kernel
theorem dL_law_495 : decode cL_law 495 = .ok (.iaload, 1) := by decide +kernel
theorem dL_law_496 : decode cL_law 496 = .ok (.aload_n 0, 1) := by decide +kernel
theorem dL_law_497 : decode cL_law 497 = .ok (.iload_n 3, 1) := by decide +kernel
theorem dL_law_498 : decode cL_law 498 = .ok (.iconst 3, 1) := by decide +kernel
theorem dL_law_499 : decode cL_law 499 = .ok (.iadd, 1) := by decide +kernel
theorem dL_law_500 : decode cL_law 500 = .ok (.iaload, 1) := by decide +kernel
theorem dL_law_501 : decode cL_law 501 = .ok (.aload_n 0, 1) := by decide +kernel
theorem dL_law_502 : decode cL_law 502 = .ok (.iload_n 3, 1) := by decide +kernel
theorem dL_law_503 : decode cL_law 503 = .ok (.iconst 4, 1) := by decide +kernel
theorem dL_law_504 : decode cL_law 504 = .ok (.iadd, 1) := by decide +kernel
theorem dL_law_505 : decode cL_law 505 = .ok (.iaload, 1) := by decide +kernel
theorem dL_law_506 : decode cL_law 506 = .ok (.aload_n 0, 1) := by decide +kernel
theorem dL_law_507 : decode cL_law 507 = .ok (.iload_n 3, 1) := by decide +kernel
theorem dL_law_508 : decode cL_law 508 = .ok (.iconst 5, 1) := by decide +kernel
theorem dL_law_509 : decode cL_law 509 = .ok (.iadd, 1) := by decide +kernel
theorem dL_law_510 : decode cL_law 510 = .ok (.iaload, 1) := by decide +kernel
theorem dL_law_511 : decode cL_law 511 = .ok (.invokevirtual 53, 3) := by decide +kernel
theorem dL_law_514 : decode cL_law 514 = .ok (.if_icmp .eq 734, 3) := by decide +kernel
theorem dL_law_517 : decode cL_law 517 = .ok (.iconst 0, 1) := by decide +kernel
theorem dL_law_518 : decode cL_law 518 = .ok (.ireturn, 1) := by decide +kernel
theorem dL_law_519 : decode cL_law 519 = .ok (.aload_n 1, 1) := by decide +kernel
theorem dL_law_520 : decode cL_law 520 = .ok (.aload_n 0, 1) := by decide +kernel
theorem dL_law_521 : decode cL_law 521 = .ok (.iload_n 3, 1) := by decide +kernel
theorem dL_law_522 : decode cL_law 522 = .ok (.iconst 1, 1) := by decide +kernel
theorem dL_law_523 : decode cL_law 523 = .ok (.iadd, 1) := by decide +kernel
theorem dL_law_524 : decode cL_law 524 = .ok (.iaload, 1) := by decide +kernel
theorem dL_law_525 : decode cL_law 525 = .ok (.invokevirtual 54, 3) := by decide +kernel
theorem dL_law_528 : decode cL_law 528 = .ok (.aload_n 2, 1) := by decide +kernel
theorem dL_law_529 : decode cL_law 529 = .ok (.aload_n 0, 1) := by decide +kernel
theorem dL_law_530 : decode cL_law 530 = .ok (.iload_n 3, 1) := by decide +kernel
theorem dL_law_531 : decode cL_law 531 = .ok (.iconst 1, 1) := by decide +kernel
theorem dL_law_532 : decode cL_law 532 = .ok (.iadd, 1) := by decide +kernel
theorem dL_law_533 : decode cL_law 533 = .ok (.iaload, 1) := by decide +kernel
theorem dL_law_534 : decode cL_law 534 = .ok (.invokevirtual 57, 3) := by decide +kernel
theorem dL_law_537 : decode cL_law 537 = .ok (.if_icmp .eq 711, 3) := by decide +kernel
theorem dL_law_540 : decode cL_law 540 = .ok (.iconst 0, 1) := by decide +kernel
theorem dL_law_541 : decode cL_law 541 = .ok (.ireturn, 1) := by decide +kernel
theorem dL_law_542 : decode cL_law 542 = .ok (.aload_n 1, 1) := by decide +kernel
theorem dL_law_543 : decode cL_law 543 = .ok (.aload_n 0, 1) := by decide +kernel
theorem dL_law_544 : decode cL_law 544 = .ok (.iload_n 3, 1) := by decide +kernel
theorem dL_law_545 : decode cL_law 545 = .ok (.iconst 1, 1) := by decide +kernel
theorem dL_law_546 : decode cL_law 546 = .ok (.iadd, 1) := by decide +kernel
theorem dL_law_547 : decode cL_law 547 = .ok (.iaload, 1) := by decide +kernel
theorem dL_law_548 : decode cL_law 548 = .ok (.aload_n 0, 1) := by decide +kernel
theorem dL_law_549 : decode cL_law 549 = .ok (.iload_n 3, 1) := by decide +kernel
theorem dL_law_550 : decode cL_law 550 = .ok (.iconst 2, 1) := by decide +kernel
theorem dL_law_551 : decode cL_law 551 = .ok (.iadd, 1) := by decide +kernel
theorem dL_law_552 : decode cL_law 552 = .ok (.iaload, 1) := by decide +kernel
theorem dL_law_553 : decode cL_law 553 = .ok (.aload_n 0, 1) := by decide +kernel
theorem dL_law_554 : decode cL_law 554 = .ok (.iload_n 3, 1) := by decide +kernel
theorem dL_law_555 : decode cL_law 555 = .ok (.iconst 3, 1) := by decide +kernel
theorem dL_law_556 : decode cL_law 556 = .ok (.iadd, 1) := by decide +kernel
theorem dL_law_557 : decode cL_law 557 = .ok (.iaload, 1) := by decide +kernel
theorem dL_law_558 : decode cL_law 558 = .ok (.invokevirtual 58, 3) := by decide +kernel
theorem dL_law_561 : decode cL_law 561 = .ok (.aload_n 2, 1) := by decide +kernel
theorem dL_law_562 : decode cL_law 562 = .ok (.aload_n 0, 1) := by decide +kernel
theorem dL_law_563 : decode cL_law 563 = .ok (.iload_n 3, 1) := by decide +kernel
theorem dL_law_564 : decode cL_law 564 = .ok (.iconst 1, 1) := by decide +kernel
theorem dL_law_565 : decode cL_law 565 = .ok (.iadd, 1) := by decide +kernel
theorem dL_law_566 : decode cL_law 566 = .ok (.iaload, 1) := by decide +kernel
theorem dL_law_567 : decode cL_law 567 = .ok (.aload_n 0, 1) := by decide +kernel
theorem dL_law_568 : decode cL_law 568 = .ok (.iload_n 3, 1) := by decide +kernel
theorem dL_law_569 : decode cL_law 569 = .ok (.iconst 2, 1) := by decide +kernel
theorem dL_law_570 : decode cL_law 570 = .ok (.iadd, 1) := by decide +kernel
theorem dL_law_571 : decode cL_law 571 = .ok (.iaload, 1) := by decide +kernel
theorem dL_law_572 : decode cL_law 572 = .ok (.aload_n 0, 1) := by decide +kernel
theorem dL_law_573 : decode cL_law 573 = .ok (.iload_n 3, 1) := by decide +kernel
theorem dL_law_574 : decode cL_law 574 = .ok (.iconst 3, 1) := by decide +kernel
theorem dL_law_575 : decode cL_law 575 = .ok (.iadd, 1) := by decide +kernel
theorem dL_law_576 : decode cL_law 576 = .ok (.iaload, 1) := by decide +kernel
theorem dL_law_577 : decode cL_law 577 = .ok (.invokevirtual 61, 3) := by decide +kernel
theorem dL_law_580 : decode cL_law 580 = .ok (.if_icmp .eq 668, 3) := by decide +kernel
theorem dL_law_583 : decode cL_law 583 = .ok (.iconst 0, 1) := by decide +kernel
theorem dL_law_584 : decode cL_law 584 = .ok (.ireturn, 1) := by decide +kernel
theorem dL_law_585 : decode cL_law 585 = .ok (.aload_n 1, 1) := by decide +kernel
theorem dL_law_586 : decode cL_law 586 = .ok (.aload_n 0, 1) := by decide +kernel
theorem dL_law_587 : decode cL_law 587 = .ok (.iload_n 3, 1) := by decide +kernel
theorem dL_law_588 : decode cL_law 588 = .ok (.iconst 1, 1) := by decide +kernel
theorem dL_law_589 : decode cL_law 589 = .ok (.iadd, 1) := by decide +kernel
theorem dL_law_590 : decode cL_law 590 = .ok (.iaload, 1) := by decide +kernel
theorem dL_law_591 : decode cL_law 591 = .ok (.aload_n 0, 1) := by decide +kernel
theorem dL_law_592 : decode cL_law 592 = .ok (.iload_n 3, 1) := by decide +kernel
theorem dL_law_593 : decode cL_law 593 = .ok (.iconst 2, 1) := by decide +kernel
theorem dL_law_594 : decode cL_law 594 = .ok (.iadd, 1) := by decide +kernel
theorem dL_law_595 : decode cL_law 595 = .ok (.iaload, 1) := by decide +kernel
theorem dL_law_596 : decode cL_law 596 = .ok (.aload_n 0, 1) := by decide +kernel
theorem dL_law_597 : decode cL_law 597 = .ok (.iload_n 3, 1) := by decide +kernel
theorem dL_law_598 : decode cL_law 598 = .ok (.iconst 3, 1) := by decide +kernel
theorem dL_law_599 : decode cL_law 599 = .ok (.iadd, 1) := by decide +kernel
theorem dL_law_600 : decode cL_law 600 = .ok (.iaload, 1) := by decide +kernel
theorem dL_law_601 : decode cL_law 601 = .ok (.aload_n 0, 1) := by decide +kernel
theorem dL_law_602 : decode cL_law 602 = .ok (.iload_n 3, 1) := by decide +kernel
theorem dL_law_603 : decode cL_law 603 = .ok (.iconst 4, 1) := by decide +kernel
theorem dL_law_604 : decode cL_law 604 = .ok (.iadd, 1) := by decide +kernel
theorem dL_law_605 : decode cL_law 605 = .ok (.iaload, 1) := by decide +kernel
theorem dL_law_606 : decode cL_law 606 = .ok (.invokevirtual 62, 3) := by decide +kernel
theorem dL_law_609 : decode cL_law 609 = .ok (.aload_n 2, 1) := by decide +kernel
theorem dL_law_610 : decode cL_law 610 = .ok (.aload_n 0, 1) := by decide +kernel
theorem dL_law_611 : decode cL_law 611 = .ok (.iload_n 3, 1) := by decide +kernel
theorem dL_law_612 : decode cL_law 612 = .ok (.iconst 1, 1) := by decide +kernel
theorem dL_law_613 : decode cL_law 613 = .ok (.iadd, 1) := by decide +kernel
theorem dL_law_614 : decode cL_law 614 = .ok (.iaload, 1) := by decide +kernel
theorem dL_law_615 : decode cL_law 615 = .ok (.aload_n 0, 1) := by decide +kernel
theorem dL_law_616 : decode cL_law 616 = .ok (.iload_n 3, 1) := by decide +kernel
theorem dL_law_617 : decode cL_law 617 = .ok (.iconst 2, 1) := by decide +kernel
theorem dL_law_618 : decode cL_law 618 = .ok (.iadd, 1) := by decide +kernel
theorem dL_law_619 : decode cL_law 619 = .ok (.iaload, 1) := by decide +kernel
theorem dL_law_620 : decode cL_law 620 = .ok (.aload_n 0, 1) := by decide +kernel
theorem dL_law_621 : decode cL_law 621 = .ok (.iload_n 3, 1) := by decide +kernel
theorem dL_law_622 : decode cL_law 622 = .ok (.iconst 3, 1) := by decide +kernel
theorem dL_law_623 : decode cL_law 623 = .ok (.iadd, 1) := by decide +kernel
theorem dL_law_624 : decode cL_law 624 = .ok (.iaload, 1) := by decide +kernel
theorem dL_law_625 : decode cL_law 625 = .ok (.aload_n 0, 1) := by decide +kernel
theorem dL_law_626 : decode cL_law 626 = .ok (.iload_n 3, 1) := by decide +kernel
theorem dL_law_627 : decode cL_law 627 = .ok (.iconst 4, 1) := by decide +kernel
theorem dL_law_628 : decode cL_law 628 = .ok (.iadd, 1) := by decide +kernel
theorem dL_law_629 : decode cL_law 629 = .ok (.iaload, 1) := by decide +kernel
theorem dL_law_630 : decode cL_law 630 = .ok (.invokevirtual 65, 3) := by decide +kernel
theorem dL_law_633 : decode cL_law 633 = .ok (.if_icmp .eq 615, 3) := by decide +kernel
theorem dL_law_636 : decode cL_law 636 = .ok (.iconst 0, 1) := by decide +kernel
theorem dL_law_637 : decode cL_law 637 = .ok (.ireturn, 1) := by decide +kernel
theorem dL_law_638 : decode cL_law 638 = .ok (.aload_n 1, 1) := by decide +kernel
theorem dL_law_639 : decode cL_law 639 = .ok (.invokevirtual 66, 3) := by decide +kernel
theorem dL_law_642 : decode cL_law 642 = .ok (.aload_n 2, 1) := by decide +kernel
theorem dL_law_643 : decode cL_law 643 = .ok (.invokevirtual 70, 3) := by decide +kernel
theorem dL_law_646 : decode cL_law 646 = .ok (.if_icmp .eq 602, 3) := by decide +kernel
theorem dL_law_649 : decode cL_law 649 = .ok (.iconst 0, 1) := by decide +kernel
theorem dL_law_650 : decode cL_law 650 = .ok (.ireturn, 1) := by decide +kernel
theorem dL_law_651 : decode cL_law 651 = .ok (.aload_n 1, 1) := by decide +kernel
theorem dL_law_652 : decode cL_law 652 = .ok (.aload_n 0, 1) := by decide +kernel
theorem dL_law_653 : decode cL_law 653 = .ok (.iload_n 3, 1) := by decide +kernel
theorem dL_law_654 : decode cL_law 654 = .ok (.iconst 1, 1) := by decide +kernel
theorem dL_law_655 : decode cL_law 655 = .ok (.iadd, 1) := by decide +kernel
theorem dL_law_656 : decode cL_law 656 = .ok (.iaload, 1) := by decide +kernel
theorem dL_law_657 : decode cL_law 657 = .ok (.aload_n 0, 1) := by decide +kernel
theorem dL_law_658 : decode cL_law 658 = .ok (.iload_n 3, 1) := by decide +kernel
theorem dL_law_659 : decode cL_law 659 = .ok (.iconst 2, 1) := by decide +kernel
theorem dL_law_660 : decode cL_law 660 = .ok (.iadd, 1) := by decide +kernel
theorem dL_law_661 : decode cL_law 661 = .ok (.iaload, 1) := by decide +kernel
theorem dL_law_662 : decode cL_law 662 = .ok (.aload_n 0, 1) := by decide +kernel
theorem dL_law_663 : decode cL_law 663 = .ok (.iload_n 3, 1) := by decide +kernel
theorem dL_law_664 : decode cL_law 664 = .ok (.iconst 3, 1) := by decide +kernel
theorem dL_law_665 : decode cL_law 665 = .ok (.iadd, 1) := by decide +kernel
theorem dL_law_666 : decode cL_law 666 = .ok (.iaload, 1) := by decide +kernel
theorem dL_law_667 : decode cL_law 667 = .ok (.invokevirtual 71, 3) := by decide +kernel
theorem dL_law_670 : decode cL_law 670 = .ok (.aload_n 2, 1) := by decide +kernel
theorem dL_law_671 : decode cL_law 671 = .ok (.aload_n 0, 1) := by decide +kernel
theorem dL_law_672 : decode cL_law 672 = .ok (.iload_n 3, 1) := by decide +kernel
theorem dL_law_673 : decode cL_law 673 = .ok (.iconst 1, 1) := by decide +kernel
theorem dL_law_674 : decode cL_law 674 = .ok (.iadd, 1) := by decide +kernel
theorem dL_law_675 : decode cL_law 675 = .ok (.iaload, 1) := by decide +kernel
theorem dL_law_676 : decode cL_law 676 = .ok (.aload_n 0, 1) := by decide +kernel
theorem dL_law_677 : decode cL_law 677 = .ok (.iload_n 3, 1) := by decide +kernel
theorem dL_law_678 : decode cL_law 678 = .ok (.iconst 2, 1) := by decide +kernel
theorem dL_law_679 : decode cL_law 679 = .ok (.iadd, 1) := by decide +kernel
theorem dL_law_680 : decode cL_law 680 = .ok (.iaload, 1) := by decide +kernel
theorem dL_law_681 : decode cL_law 681 = .ok (.aload_n 0, 1) := by decide +kernel
theorem dL_law_682 : decode cL_law 682 = .ok (.iload_n 3, 1) := by decide +kernel
theorem dL_law_683 : decode cL_law 683 = .ok (.iconst 3, 1) := by decide +kernel
theorem dL_law_684 : decode cL_law 684 = .ok (.iadd, 1) := by decide +kernel
theorem dL_law_685 : decode cL_law 685 = .ok (.iaload, 1) := by decide +kernel
theorem dL_law_686 : decode cL_law 686 = .ok (.invokevirtual 74, 3) := by decide +kernel
theorem dL_law_689 : decode cL_law 689 = .ok (.if_icmp .eq 559, 3) := by decide +kernel
theorem dL_law_692 : decode cL_law 692 = .ok (.iconst 0, 1) := by decide +kernel
theorem dL_law_693 : decode cL_law 693 = .ok (.ireturn, 1) := by decide +kernel
theorem dL_law_694 : decode cL_law 694 = .ok (.aload_n 1, 1) := by decide +kernel
theorem dL_law_695 : decode cL_law 695 = .ok (.aload_n 0, 1) := by decide +kernel
theorem dL_law_696 : decode cL_law 696 = .ok (.iload_n 3, 1) := by decide +kernel
theorem dL_law_697 : decode cL_law 697 = .ok (.iconst 1, 1) := by decide +kernel
theorem dL_law_698 : decode cL_law 698 = .ok (.iadd, 1) := by decide +kernel
theorem dL_law_699 : decode cL_law 699 = .ok (.iaload, 1) := by decide +kernel
theorem dL_law_700 : decode cL_law 700 = .ok (.invokevirtual 75, 3) := by decide +kernel
theorem dL_law_703 : decode cL_law 703 = .ok (.aload_n 2, 1) := by decide +kernel
theorem dL_law_704 : decode cL_law 704 = .ok (.aload_n 0, 1) := by decide +kernel
theorem dL_law_705 : decode cL_law 705 = .ok (.iload_n 3, 1) := by decide +kernel
theorem dL_law_706 : decode cL_law 706 = .ok (.iconst 1, 1) := by decide +kernel
theorem dL_law_707 : decode cL_law 707 = .ok (.iadd, 1) := by decide +kernel
theorem dL_law_708 : decode cL_law 708 = .ok (.iaload, 1) := by decide +kernel
theorem dL_law_709 : decode cL_law 709 = .ok (.invokevirtual 78, 3) := by decide +kernel
theorem dL_law_712 : decode cL_law 712 = .ok (.if_icmp .eq 536, 3) := by decide +kernel
theorem dL_law_715 : decode cL_law 715 = .ok (.iconst 0, 1) := by decide +kernel
theorem dL_law_716 : decode cL_law 716 = .ok (.ireturn, 1) := by decide +kernel
theorem dL_law_717 : decode cL_law 717 = .ok (.aload_n 1, 1) := by decide +kernel
theorem dL_law_718 : decode cL_law 718 = .ok (.aload_n 0, 1) := by decide +kernel
theorem dL_law_719 : decode cL_law 719 = .ok (.iload_n 3, 1) := by decide +kernel
theorem dL_law_720 : decode cL_law 720 = .ok (.iconst 1, 1) := by decide +kernel
theorem dL_law_721 : decode cL_law 721 = .ok (.iadd, 1) := by decide +kernel
theorem dL_law_722 : decode cL_law 722 = .ok (.iaload, 1) := by decide +kernel
theorem dL_law_723 : decode cL_law 723 = .ok (.invokevirtual 79, 3) := by decide +kernel
theorem dL_law_726 : decode cL_law 726 = .ok (.aload_n 2, 1) := by decide +kernel
theorem dL_law_727 : decode cL_law 727 = .ok (.aload_n 0, 1) := by decide +kernel
theorem dL_law_728 : decode cL_law 728 = .ok (.iload_n 3, 1) := by decide +kernel
theorem dL_law_729 : decode cL_law 729 = .ok (.iconst 1, 1) := by decide +kernel
theorem dL_law_730 : decode cL_law 730 = .ok (.iadd, 1) := by decide +kernel
theorem dL_law_731 : decode cL_law 731 = .ok (.iaload, 1) := by decide +kernel
theorem dL_law_732 : decode cL_law 732 = .ok (.invokevirtual 82, 3) := by decide +kernel
theorem dL_law_735 : decode cL_law 735 = .ok (.if_icmp .eq 513, 3) := by decide +kernel
theorem dL_law_738 : decode cL_law 738 = .ok (.iconst 0, 1) := by decide +kernel
theorem dL_law_739 : decode cL_law 739 = .ok (.ireturn, 1) := by decide +kernel
theorem dL_law_740 : decode cL_law 740 = .ok (.aload_n 1, 1) := by decide +kernel
theorem dL_law_741 : decode cL_law 741 = .ok (.aload_n 0, 1) := by decide +kernel
theorem dL_law_742 : decode cL_law 742 = .ok (.iload_n 3, 1) := by decide +kernel
theorem dL_law_743 : decode cL_law 743 = .ok (.iconst 1, 1) := by decide +kernel
theorem dL_law_744 : decode cL_law 744 = .ok (.iadd, 1) := by decide +kernel
theorem dL_law_745 : decode cL_law 745 = .ok (.iaload, 1) := by decide +kernel
theorem dL_law_746 : decode cL_law 746 = .ok (.invokevirtual 83, 3) := by decide +kernel
theorem dL_law_749 : decode cL_law 749 = .ok (.aload_n 2, 1) := by decide +kernel
theorem dL_law_750 : decode cL_law 750 = .ok (.aload_n 0, 1) := by decide +kernel
theorem dL_law_751 : decode cL_law 751 = .ok (.iload_n 3, 1) := by decide +kernel
theorem dL_law_752 : decode cL_law 752 = .ok (.iconst 1, 1) := by decide +kernel
theorem dL_law_753 : decode cL_law 753 = .ok (.iadd, 1) := by decide +kernel
theorem dL_law_754 : decode cL_law 754 = .ok (.iaload, 1) := by decide +kernel
theorem dL_law_755 : decode cL_law 755 = .ok (.invokevirtual 86, 3) := by decide +kernel
theorem dL_law_758 : decode cL_law 758 = .ok (.if_icmp .eq 490, 3) := by decide +kernel
theorem dL_law_761 : decode cL_law 761 = .ok (.iconst 0, 1) := by decide +kernel
theorem dL_law_762 : decode cL_law 762 = .ok (.ireturn, 1) := by decide +kernel
theorem dL_law_763 : decode cL_law 763 = .ok (.aload_n 1, 1) := by decide +kernel
theorem dL_law_764 : decode cL_law 764 = .ok (.aload_n 0, 1) := by decide +kernel
theorem dL_law_765 : decode cL_law 765 = .ok (.iload_n 3, 1) := by decide +kernel
theorem dL_law_766 : decode cL_law 766 = .ok (.iconst 1, 1) := by decide +kernel
theorem dL_law_767 : decode cL_law 767 = .ok (.iadd, 1) := by decide +kernel
theorem dL_law_768 : decode cL_law 768 = .ok (.iaload, 1) := by decide +kernel
theorem dL_law_769 : decode cL_law 769 = .ok (.aload_n 0, 1) := by decide +kernel
theorem dL_law_770 : decode cL_law 770 = .ok (.iload_n 3, 1) := by decide +kernel
theorem dL_law_771 : decode cL_law 771 = .ok (.iconst 2, 1) := by decide +kernel
theorem dL_law_772 : decode cL_law 772 = .ok (.iadd, 1) := by decide +kernel
theorem dL_law_773 : decode cL_law 773 = .ok (.iaload, 1) := by decide +kernel
theorem dL_law_774 : decode cL_law 774 = .ok (.aload_n 0, 1) := by decide +kernel
theorem dL_law_775 : decode cL_law 775 = .ok (.iload_n 3, 1) := by decide +kernel
theorem dL_law_776 : decode cL_law 776 = .ok (.iconst 3, 1) := by decide +kernel
theorem dL_law_777 : decode cL_law 777 = .ok (.iadd, 1) := by decide +kernel
theorem dL_law_778 : decode cL_law 778 = .ok (.iaload, 1) := by decide +kernel
theorem dL_law_779 : decode cL_law 779 = .ok (.aload_n 0, 1) := by decide +kernel
theorem dL_law_780 : decode cL_law 780 = .ok (.iload_n 3, 1) := by decide +kernel
theorem dL_law_781 : decode cL_law 781 = .ok (.iconst 4, 1) := by decide +kernel
theorem dL_law_782 : decode cL_law 782 = .ok (.iadd, 1) := by decide +kernel
theorem dL_law_783 : decode cL_law 783 = .ok (.iaload, 1) := by decide +kernel
theorem dL_law_784 : decode cL_law 784 = .ok (.aload_n 0, 1) := by decide +kernel
theorem dL_law_785 : decode cL_law 785 = .ok (.iload_n 3, 1) := by decide +kernel
theorem dL_law_786 : decode cL_law 786 = .ok (.iconst 5, 1) := by decide +kernel
theorem dL_law_787 : decode cL_law 787 = .ok (.iadd, 1) := by decide +kernel
theorem dL_law_788 : decode cL_law 788 = .ok (.iaload, 1) := by decide +kernel
theorem dL_law_789 : decode cL_law 789 = .ok (.invokevirtual 87, 3) := by decide +kernel
theorem dL_law_792 : decode cL_law 792 = .ok (.aload_n 2, 1) := by decide +kernel
theorem dL_law_793 : decode cL_law 793 = .ok (.aload_n 0, 1) := by decide +kernel
theorem dL_law_794 : decode cL_law 794 = .ok (.iload_n 3, 1) := by decide +kernel
theorem dL_law_795 : decode cL_law 795 = .ok (.iconst 1, 1) := by decide +kernel
theorem dL_law_796 : decode cL_law 796 = .ok (.iadd, 1) := by decide +kernel
theorem dL_law_797 : decode cL_law 797 = .ok (.iaload, 1) := by decide +kernel
theorem dL_law_798 : decode cL_law 798 = .ok (.aload_n 0, 1) := by decide +kernel
theorem dL_law_799 : decode cL_law 799 = .ok (.iload_n 3, 1) := by decide +kernel
theorem dL_law_800 : decode cL_law 800 = .ok (.iconst 2, 1) := by decide +kernel
theorem dL_law_801 : decode cL_law 801 = .ok (.iadd, 1) := by decide +kernel
theorem dL_law_802 : decode cL_law 802 = .ok (.iaload, 1) := by decide +kernel
theorem dL_law_803 : decode cL_law 803 = .ok (.aload_n 0, 1) := by decide +kernel
theorem dL_law_804 : decode cL_law 804 = .ok (.iload_n 3, 1) := by decide +kernel
theorem dL_law_805 : decode cL_law 805 = .ok (.iconst 3, 1) := by decide +kernel
theorem dL_law_806 : decode cL_law 806 = .ok (.iadd, 1) := by decide +kernel
theorem dL_law_807 : decode cL_law 807 = .ok (.iaload, 1) := by decide +kernel
theorem dL_law_808 : decode cL_law 808 = .ok (.aload_n 0, 1) := by decide +kernel
theorem dL_law_809 : decode cL_law 809 = .ok (.iload_n 3, 1) := by decide +kernel
theorem dL_law_810 : decode cL_law 810 = .ok (.iconst 4, 1) := by decide +kernel
theorem dL_law_811 : decode cL_law 811 = .ok (.iadd, 1) := by decide +kernel
theorem dL_law_812 : decode cL_law 812 = .ok (.iaload, 1) := by decide +kernel
theorem dL_law_813 : decode cL_law 813 = .ok (.aload_n 0, 1) := by decide +kernel
theorem dL_law_814 : decode cL_law 814 = .ok (.iload_n 3, 1) := by decide +kernel
theorem dL_law_815 : decode cL_law 815 = .ok (.iconst 5, 1) := by decide +kernel
theorem dL_law_816 : decode cL_law 816 = .ok (.iadd, 1) := by decide +kernel
theorem dL_law_817 : decode cL_law 817 = .ok (.iaload, 1) := by decide +kernel
theorem dL_law_818 : decode cL_law 818 = .ok (.invokevirtual 90, 3) := by decide +kernel
theorem dL_law_821 : decode cL_law 821 = .ok (.if_icmp .eq 427, 3) := by decide +kernel
theorem dL_law_824 : decode cL_law 824 = .ok (.iconst 0, 1) := by decide +kernel
theorem dL_law_825 : decode cL_law 825 = .ok (.ireturn, 1) := by decide +kernel
theorem dL_law_826 : decode cL_law 826 = .ok (.aload_n 1, 1) := by decide +kernel
theorem dL_law_827 : decode cL_law 827 = .ok (.aload_n 0, 1) := by decide +kernel
theorem dL_law_828 : decode cL_law 828 = .ok (.iload_n 3, 1) := by decide +kernel
theorem dL_law_829 : decode cL_law 829 = .ok (.iconst 1, 1) := by decide +kernel
theorem dL_law_830 : decode cL_law 830 = .ok (.iadd, 1) := by decide +kernel
theorem dL_law_831 : decode cL_law 831 = .ok (.iaload, 1) := by decide +kernel
theorem dL_law_832 : decode cL_law 832 = .ok (.aload_n 0, 1) := by decide +kernel
theorem dL_law_833 : decode cL_law 833 = .ok (.iload_n 3, 1) := by decide +kernel
theorem dL_law_834 : decode cL_law 834 = .ok (.iconst 2, 1) := by decide +kernel
theorem dL_law_835 : decode cL_law 835 = .ok (.iadd, 1) := by decide +kernel
theorem dL_law_836 : decode cL_law 836 = .ok (.iaload, 1) := by decide +kernel
theorem dL_law_837 : decode cL_law 837 = .ok (.aload_n 0, 1) := by decide +kernel
theorem dL_law_838 : decode cL_law 838 = .ok (.iload_n 3, 1) := by decide +kernel
theorem dL_law_839 : decode cL_law 839 = .ok (.iconst 3, 1) := by decide +kernel
theorem dL_law_840 : decode cL_law 840 = .ok (.iadd, 1) := by decide +kernel
theorem dL_law_841 : decode cL_law 841 = .ok (.iaload, 1) := by decide +kernel
theorem dL_law_842 : decode cL_law 842 = .ok (.invokevirtual 91, 3) := by decide +kernel
theorem dL_law_845 : decode cL_law 845 = .ok (.aload_n 2, 1) := by decide +kernel
theorem dL_law_846 : decode cL_law 846 = .ok (.aload_n 0, 1) := by decide +kernel
theorem dL_law_847 : decode cL_law 847 = .ok (.iload_n 3, 1) := by decide +kernel
theorem dL_law_848 : decode cL_law 848 = .ok (.iconst 1, 1) := by decide +kernel
theorem dL_law_849 : decode cL_law 849 = .ok (.iadd, 1) := by decide +kernel
theorem dL_law_850 : decode cL_law 850 = .ok (.iaload, 1) := by decide +kernel
theorem dL_law_851 : decode cL_law 851 = .ok (.aload_n 0, 1) := by decide +kernel
theorem dL_law_852 : decode cL_law 852 = .ok (.iload_n 3, 1) := by decide +kernel
theorem dL_law_853 : decode cL_law 853 = .ok (.iconst 2, 1) := by decide +kernel
theorem dL_law_854 : decode cL_law 854 = .ok (.iadd, 1) := by decide +kernel
theorem dL_law_855 : decode cL_law 855 = .ok (.iaload, 1) := by decide +kernel
theorem dL_law_856 : decode cL_law 856 = .ok (.aload_n 0, 1) := by decide +kernel
theorem dL_law_857 : decode cL_law 857 = .ok (.iload_n 3, 1) := by decide +kernel
theorem dL_law_858 : decode cL_law 858 = .ok (.iconst 3, 1) := by decide +kernel
theorem dL_law_859 : decode cL_law 859 = .ok (.iadd, 1) := by decide +kernel
theorem dL_law_860 : decode cL_law 860 = .ok (.iaload, 1) := by decide +kernel
theorem dL_law_861 : decode cL_law 861 = .ok (.invokevirtual 95, 3) := by decide +kernel
theorem dL_law_864 : decode cL_law 864 = .ok (.lcmp, 1) := by decide +kernel
theorem dL_law_865 : decode cL_law 865 = .ok (.ifCond .eq 383, 3) := by decide +kernel
theorem dL_law_868 : decode cL_law 868 = .ok (.iconst 0, 1) := by decide +kernel
theorem dL_law_869 : decode cL_law 869 = .ok (.ireturn, 1) := by decide +kernel
theorem dL_law_870 : decode cL_law 870 = .ok (.aload_n 1, 1) := by decide +kernel
theorem dL_law_871 : decode cL_law 871 = .ok (.aload_n 0, 1) := by decide +kernel
theorem dL_law_872 : decode cL_law 872 = .ok (.iload_n 3, 1) := by decide +kernel
theorem dL_law_873 : decode cL_law 873 = .ok (.iconst 1, 1) := by decide +kernel
theorem dL_law_874 : decode cL_law 874 = .ok (.iadd, 1) := by decide +kernel
theorem dL_law_875 : decode cL_law 875 = .ok (.iaload, 1) := by decide +kernel
theorem dL_law_876 : decode cL_law 876 = .ok (.aload_n 0, 1) := by decide +kernel
theorem dL_law_877 : decode cL_law 877 = .ok (.iload_n 3, 1) := by decide +kernel
theorem dL_law_878 : decode cL_law 878 = .ok (.iconst 2, 1) := by decide +kernel
theorem dL_law_879 : decode cL_law 879 = .ok (.iadd, 1) := by decide +kernel
theorem dL_law_880 : decode cL_law 880 = .ok (.iaload, 1) := by decide +kernel
theorem dL_law_881 : decode cL_law 881 = .ok (.invokevirtual 96, 3) := by decide +kernel
theorem dL_law_884 : decode cL_law 884 = .ok (.aload_n 2, 1) := by decide +kernel
theorem dL_law_885 : decode cL_law 885 = .ok (.aload_n 0, 1) := by decide +kernel
theorem dL_law_886 : decode cL_law 886 = .ok (.iload_n 3, 1) := by decide +kernel
theorem dL_law_887 : decode cL_law 887 = .ok (.iconst 1, 1) := by decide +kernel
theorem dL_law_888 : decode cL_law 888 = .ok (.iadd, 1) := by decide +kernel
theorem dL_law_889 : decode cL_law 889 = .ok (.iaload, 1) := by decide +kernel
theorem dL_law_890 : decode cL_law 890 = .ok (.aload_n 0, 1) := by decide +kernel
theorem dL_law_891 : decode cL_law 891 = .ok (.iload_n 3, 1) := by decide +kernel
theorem dL_law_892 : decode cL_law 892 = .ok (.iconst 2, 1) := by decide +kernel
theorem dL_law_893 : decode cL_law 893 = .ok (.iadd, 1) := by decide +kernel
theorem dL_law_894 : decode cL_law 894 = .ok (.iaload, 1) := by decide +kernel
theorem dL_law_895 : decode cL_law 895 = .ok (.invokevirtual 100, 3) := by decide +kernel
theorem dL_law_898 : decode cL_law 898 = .ok (.lcmp, 1) := by decide +kernel
theorem dL_law_899 : decode cL_law 899 = .ok (.ifCond .eq 349, 3) := by decide +kernel
theorem dL_law_902 : decode cL_law 902 = .ok (.iconst 0, 1) := by decide +kernel
theorem dL_law_903 : decode cL_law 903 = .ok (.ireturn, 1) := by decide +kernel
theorem dL_law_904 : decode cL_law 904 = .ok (.aload_n 1, 1) := by decide +kernel
theorem dL_law_905 : decode cL_law 905 = .ok (.aload_n 0, 1) := by decide +kernel
theorem dL_law_906 : decode cL_law 906 = .ok (.iload_n 3, 1) := by decide +kernel
theorem dL_law_907 : decode cL_law 907 = .ok (.iconst 1, 1) := by decide +kernel
theorem dL_law_908 : decode cL_law 908 = .ok (.iadd, 1) := by decide +kernel
theorem dL_law_909 : decode cL_law 909 = .ok (.iaload, 1) := by decide +kernel
theorem dL_law_910 : decode cL_law 910 = .ok (.aload_n 0, 1) := by decide +kernel
theorem dL_law_911 : decode cL_law 911 = .ok (.iload_n 3, 1) := by decide +kernel
theorem dL_law_912 : decode cL_law 912 = .ok (.iconst 2, 1) := by decide +kernel
theorem dL_law_913 : decode cL_law 913 = .ok (.iadd, 1) := by decide +kernel
theorem dL_law_914 : decode cL_law 914 = .ok (.iaload, 1) := by decide +kernel
theorem dL_law_915 : decode cL_law 915 = .ok (.aload_n 0, 1) := by decide +kernel
theorem dL_law_916 : decode cL_law 916 = .ok (.iload_n 3, 1) := by decide +kernel
theorem dL_law_917 : decode cL_law 917 = .ok (.iconst 3, 1) := by decide +kernel
theorem dL_law_918 : decode cL_law 918 = .ok (.iadd, 1) := by decide +kernel
theorem dL_law_919 : decode cL_law 919 = .ok (.iaload, 1) := by decide +kernel
theorem dL_law_920 : decode cL_law 920 = .ok (.invokevirtual 101, 3) := by decide +kernel
theorem dL_law_923 : decode cL_law 923 = .ok (.aload_n 2, 1) := by decide +kernel
theorem dL_law_924 : decode cL_law 924 = .ok (.aload_n 0, 1) := by decide +kernel
theorem dL_law_925 : decode cL_law 925 = .ok (.iload_n 3, 1) := by decide +kernel
theorem dL_law_926 : decode cL_law 926 = .ok (.iconst 1, 1) := by decide +kernel
theorem dL_law_927 : decode cL_law 927 = .ok (.iadd, 1) := by decide +kernel
theorem dL_law_928 : decode cL_law 928 = .ok (.iaload, 1) := by decide +kernel
theorem dL_law_929 : decode cL_law 929 = .ok (.aload_n 0, 1) := by decide +kernel
theorem dL_law_930 : decode cL_law 930 = .ok (.iload_n 3, 1) := by decide +kernel
theorem dL_law_931 : decode cL_law 931 = .ok (.iconst 2, 1) := by decide +kernel
theorem dL_law_932 : decode cL_law 932 = .ok (.iadd, 1) := by decide +kernel
theorem dL_law_933 : decode cL_law 933 = .ok (.iaload, 1) := by decide +kernel
theorem dL_law_934 : decode cL_law 934 = .ok (.aload_n 0, 1) := by decide +kernel
theorem dL_law_935 : decode cL_law 935 = .ok (.iload_n 3, 1) := by decide +kernel
theorem dL_law_936 : decode cL_law 936 = .ok (.iconst 3, 1) := by decide +kernel
theorem dL_law_937 : decode cL_law 937 = .ok (.iadd, 1) := by decide +kernel
theorem dL_law_938 : decode cL_law 938 = .ok (.iaload, 1) := by decide +kernel
theorem dL_law_939 : decode cL_law 939 = .ok (.invokevirtual 104, 3) := by decide +kernel
theorem dL_law_942 : decode cL_law 942 = .ok (.if_icmp .eq 306, 3) := by decide +kernel
theorem dL_law_945 : decode cL_law 945 = .ok (.iconst 0, 1) := by decide +kernel
theorem dL_law_946 : decode cL_law 946 = .ok (.ireturn, 1) := by decide +kernel
theorem dL_law_947 : decode cL_law 947 = .ok (.aload_n 1, 1) := by decide +kernel
theorem dL_law_948 : decode cL_law 948 = .ok (.aload_n 0, 1) := by decide +kernel
theorem dL_law_949 : decode cL_law 949 = .ok (.iload_n 3, 1) := by decide +kernel
theorem dL_law_950 : decode cL_law 950 = .ok (.iconst 1, 1) := by decide +kernel
theorem dL_law_951 : decode cL_law 951 = .ok (.iadd, 1) := by decide +kernel
theorem dL_law_952 : decode cL_law 952 = .ok (.iaload, 1) := by decide +kernel
theorem dL_law_953 : decode cL_law 953 = .ok (.invokevirtual 105, 3) := by decide +kernel
theorem dL_law_956 : decode cL_law 956 = .ok (.aload_n 2, 1) := by decide +kernel
theorem dL_law_957 : decode cL_law 957 = .ok (.aload_n 0, 1) := by decide +kernel
theorem dL_law_958 : decode cL_law 958 = .ok (.iload_n 3, 1) := by decide +kernel
theorem dL_law_959 : decode cL_law 959 = .ok (.iconst 1, 1) := by decide +kernel
theorem dL_law_960 : decode cL_law 960 = .ok (.iadd, 1) := by decide +kernel
theorem dL_law_961 : decode cL_law 961 = .ok (.iaload, 1) := by decide +kernel
theorem dL_law_962 : decode cL_law 962 = .ok (.invokevirtual 108, 3) := by decide +kernel
theorem dL_law_965 : decode cL_law 965 = .ok (.if_icmp .eq 283, 3) := by decide +kernel
theorem dL_law_968 : decode cL_law 968 = .ok (.iconst 0, 1) := by decide +kernel
theorem dL_law_969 : decode cL_law 969 = .ok (.ireturn, 1) := by decide +kernel
theorem dL_law_970 : decode cL_law 970 = .ok (.aload_n 1, 1) := by decide +kernel
theorem dL_law_971 : decode cL_law 971 = .ok (.aload_n 0, 1) := by decide +kernel
theorem dL_law_972 : decode cL_law 972 = .ok (.iload_n 3, 1) := by decide +kernel
theorem dL_law_973 : decode cL_law 973 = .ok (.iconst 1, 1) := by decide +kernel
theorem dL_law_974 : decode cL_law 974 = .ok (.iadd, 1) := by decide +kernel
theorem dL_law_975 : decode cL_law 975 = .ok (.iaload, 1) := by decide +kernel
theorem dL_law_976 : decode cL_law 976 = .ok (.aload_n 0, 1) := by decide +kernel
theorem dL_law_977 : decode cL_law 977 = .ok (.iload_n 3, 1) := by decide +kernel
theorem dL_law_978 : decode cL_law 978 = .ok (.iconst 2, 1) := by decide +kernel
theorem dL_law_979 : decode cL_law 979 = .ok (.iadd, 1) := by decide +kernel
theorem dL_law_980 : decode cL_law 980 = .ok (.iaload, 1) := by decide +kernel
theorem dL_law_981 : decode cL_law 981 = .ok (.aload_n 0, 1) := by decide +kernel
theorem dL_law_982 : decode cL_law 982 = .ok (.iload_n 3, 1) := by decide +kernel
theorem dL_law_983 : decode cL_law 983 = .ok (.iconst 3, 1) := by decide +kernel
theorem dL_law_984 : decode cL_law 984 = .ok (.iadd, 1) := by decide +kernel
theorem dL_law_985 : decode cL_law 985 = .ok (.iaload, 1) := by decide +kernel
theorem dL_law_986 : decode cL_law 986 = .ok (.invokevirtual 109, 3) := by decide +kernel
theorem dL_law_989 : decode cL_law 989 = .ok (.aload_n 2, 1) := by decide +kernel
theorem dL_law_990 : decode cL_law 990 = .ok (.aload_n 0, 1) := by decide +kernel
theorem dL_law_991 : decode cL_law 991 = .ok (.iload_n 3, 1) := by decide +kernel
theorem dL_law_992 : decode cL_law 992 = .ok (.iconst 1, 1) := by decide +kernel
theorem dL_law_993 : decode cL_law 993 = .ok (.iadd, 1) := by decide +kernel
theorem dL_law_994 : decode cL_law 994 = .ok (.iaload, 1) := by decide +kernel
theorem dL_law_995 : decode cL_law 995 = .ok (.aload_n 0, 1) := by decide +kernel
theorem dL_law_996 : decode cL_law 996 = .ok (.iload_n 3, 1) := by decide +kernel
theorem dL_law_997 : decode cL_law 997 = .ok (.iconst 2, 1) := by decide +kernel
theorem dL_law_998 : decode cL_law 998 = .ok (.iadd, 1) := by decide +kernel
theorem dL_law_999 : decode cL_law 999 = .ok (.iaload, 1) := by decide +kernel
theorem dL_law_1000 : decode cL_law 1000 = .ok (.aload_n 0, 1) := by decide +kernel
theorem dL_law_1001 : decode cL_law 1001 = .ok (.iload_n 3, 1) := by decide +kernel
theorem dL_law_1002 : decode cL_law 1002 = .ok (.iconst 3, 1) := by decide +kernel
theorem dL_law_1003 : decode cL_law 1003 = .ok (.iadd, 1) := by decide +kernel
theorem dL_law_1004 : decode cL_law 1004 = .ok (.iaload, 1) := by decide +kernel
theorem dL_law_1005 : decode cL_law 1005 = .ok (.invokevirtual 112, 3) := by decide +kernel
theorem dL_law_1008 : decode cL_law 1008 = .ok (.if_icmp .eq 240, 3) := by decide +kernel
theorem dL_law_1011 : decode cL_law 1011 = .ok (.iconst 0, 1) := by decide +kernel
theorem dL_law_1012 : decode cL_law 1012 = .ok (.ireturn, 1) := by decide +kernel
theorem dL_law_1013 : decode cL_law 1013 = .ok (.aload_n 1, 1) := by decide +kernel
theorem dL_law_1014 : decode cL_law 1014 = .ok (.aload_n 0, 1) := by decide +kernel
theorem dL_law_1015 : decode cL_law 1015 = .ok (.iload_n 3, 1) := by decide +kernel
theorem dL_law_1016 : decode cL_law 1016 = .ok (.iconst 1, 1) := by decide +kernel
theorem dL_law_1017 : decode cL_law 1017 = .ok (.iadd, 1) := by decide +kernel
theorem dL_law_1018 : decode cL_law 1018 = .ok (.iaload, 1) := by decide +kernel
theorem dL_law_1019 : decode cL_law 1019 = .ok (.aload_n 0, 1) := by decide +kernel
theorem dL_law_1020 : decode cL_law 1020 = .ok (.iload_n 3, 1) := by decide +kernel
theorem dL_law_1021 : decode cL_law 1021 = .ok (.iconst 2, 1) := by decide +kernel
theorem dL_law_1022 : decode cL_law 1022 = .ok (.iadd, 1) := by decide +kernel
theorem dL_law_1023 : decode cL_law 1023 = .ok (.iaload, 1) := by decide +kernel
theorem dL_law_1024 : decode cL_law 1024 = .ok (.aload_n 0, 1) := by decide +kernel
theorem dL_law_1025 : decode cL_law 1025 = .ok (.iload_n 3, 1) := by decide +kernel
theorem dL_law_1026 : decode cL_law 1026 = .ok (.iconst 3, 1) := by decide +kernel
theorem dL_law_1027 : decode cL_law 1027 = .ok (.iadd, 1) := by decide +kernel
theorem dL_law_1028 : decode cL_law 1028 = .ok (.iaload, 1) := by decide +kernel
theorem dL_law_1029 : decode cL_law 1029 = .ok (.invokevirtual 113, 3) := by decide +kernel
theorem dL_law_1032 : decode cL_law 1032 = .ok (.aload_n 2, 1) := by decide +kernel
theorem dL_law_1033 : decode cL_law 1033 = .ok (.aload_n 0, 1) := by decide +kernel
theorem dL_law_1034 : decode cL_law 1034 = .ok (.iload_n 3, 1) := by decide +kernel
theorem dL_law_1035 : decode cL_law 1035 = .ok (.iconst 1, 1) := by decide +kernel
theorem dL_law_1036 : decode cL_law 1036 = .ok (.iadd, 1) := by decide +kernel
theorem dL_law_1037 : decode cL_law 1037 = .ok (.iaload, 1) := by decide +kernel
theorem dL_law_1038 : decode cL_law 1038 = .ok (.aload_n 0, 1) := by decide +kernel
theorem dL_law_1039 : decode cL_law 1039 = .ok (.iload_n 3, 1) := by decide +kernel
theorem dL_law_1040 : decode cL_law 1040 = .ok (.iconst 2, 1) := by decide +kernel
theorem dL_law_1041 : decode cL_law 1041 = .ok (.iadd, 1) := by decide +kernel
theorem dL_law_1042 : decode cL_law 1042 = .ok (.iaload, 1) := by decide +kernel
theorem dL_law_1043 : decode cL_law 1043 = .ok (.aload_n 0, 1) := by decide +kernel
theorem dL_law_1044 : decode cL_law 1044 = .ok (.iload_n 3, 1) := by decide +kernel
theorem dL_law_1045 : decode cL_law 1045 = .ok (.iconst 3, 1) := by decide +kernel
theorem dL_law_1046 : decode cL_law 1046 = .ok (.iadd, 1) := by decide +kernel
theorem dL_law_1047 : decode cL_law 1047 = .ok (.iaload, 1) := by decide +kernel
theorem dL_law_1048 : decode cL_law 1048 = .ok (.invokevirtual 116, 3) := by decide +kernel
theorem dL_law_1051 : decode cL_law 1051 = .ok (.lcmp, 1) := by decide +kernel
theorem dL_law_1052 : decode cL_law 1052 = .ok (.ifCond .eq 196, 3) := by decide +kernel
theorem dL_law_1055 : decode cL_law 1055 = .ok (.iconst 0, 1) := by decide +kernel
theorem dL_law_1056 : decode cL_law 1056 = .ok (.ireturn, 1) := by decide +kernel
theorem dL_law_1057 : decode cL_law 1057 = .ok (.aload_n 1, 1) := by decide +kernel
theorem dL_law_1058 : decode cL_law 1058 = .ok (.aload_n 0, 1) := by decide +kernel
theorem dL_law_1059 : decode cL_law 1059 = .ok (.iload_n 3, 1) := by decide +kernel
theorem dL_law_1060 : decode cL_law 1060 = .ok (.iconst 1, 1) := by decide +kernel
theorem dL_law_1061 : decode cL_law 1061 = .ok (.iadd, 1) := by decide +kernel
theorem dL_law_1062 : decode cL_law 1062 = .ok (.iaload, 1) := by decide +kernel
theorem dL_law_1063 : decode cL_law 1063 = .ok (.aload_n 0, 1) := by decide +kernel
theorem dL_law_1064 : decode cL_law 1064 = .ok (.iload_n 3, 1) := by decide +kernel
theorem dL_law_1065 : decode cL_law 1065 = .ok (.iconst 2, 1) := by decide +kernel
theorem dL_law_1066 : decode cL_law 1066 = .ok (.iadd, 1) := by decide +kernel
theorem dL_law_1067 : decode cL_law 1067 = .ok (.iaload, 1) := by decide +kernel
theorem dL_law_1068 : decode cL_law 1068 = .ok (.aload_n 0, 1) := by decide +kernel
theorem dL_law_1069 : decode cL_law 1069 = .ok (.iload_n 3, 1) := by decide +kernel
theorem dL_law_1070 : decode cL_law 1070 = .ok (.iconst 3, 1) := by decide +kernel
theorem dL_law_1071 : decode cL_law 1071 = .ok (.iadd, 1) := by decide +kernel
theorem dL_law_1072 : decode cL_law 1072 = .ok (.iaload, 1) := by decide +kernel
theorem dL_law_1073 : decode cL_law 1073 = .ok (.aload_n 0, 1) := by decide +kernel
theorem dL_law_1074 : decode cL_law 1074 = .ok (.iload_n 3, 1) := by decide +kernel
theorem dL_law_1075 : decode cL_law 1075 = .ok (.iconst 4, 1) := by decide +kernel
theorem dL_law_1076 : decode cL_law 1076 = .ok (.iadd, 1) := by decide +kernel
theorem dL_law_1077 : decode cL_law 1077 = .ok (.iaload, 1) := by decide +kernel
theorem dL_law_1078 : decode cL_law 1078 = .ok (.aload_n 0, 1) := by decide +kernel
theorem dL_law_1079 : decode cL_law 1079 = .ok (.iload_n 3, 1) := by decide +kernel
theorem dL_law_1080 : decode cL_law 1080 = .ok (.iconst 5, 1) := by decide +kernel
theorem dL_law_1081 : decode cL_law 1081 = .ok (.iadd, 1) := by decide +kernel
theorem dL_law_1082 : decode cL_law 1082 = .ok (.iaload, 1) := by decide +kernel
theorem dL_law_1083 : decode cL_law 1083 = .ok (.invokevirtual 117, 3) := by decide +kernel
theorem dL_law_1086 : decode cL_law 1086 = .ok (.aload_n 2, 1) := by decide +kernel
theorem dL_law_1087 : decode cL_law 1087 = .ok (.aload_n 0, 1) := by decide +kernel
theorem dL_law_1088 : decode cL_law 1088 = .ok (.iload_n 3, 1) := by decide +kernel
theorem dL_law_1089 : decode cL_law 1089 = .ok (.iconst 1, 1) := by decide +kernel
theorem dL_law_1090 : decode cL_law 1090 = .ok (.iadd, 1) := by decide +kernel
theorem dL_law_1091 : decode cL_law 1091 = .ok (.iaload, 1) := by decide +kernel
theorem dL_law_1092 : decode cL_law 1092 = .ok (.aload_n 0, 1) := by decide +kernel
theorem dL_law_1093 : decode cL_law 1093 = .ok (.iload_n 3, 1) := by decide +kernel
theorem dL_law_1094 : decode cL_law 1094 = .ok (.iconst 2, 1) := by decide +kernel
theorem dL_law_1095 : decode cL_law 1095 = .ok (.iadd, 1) := by decide +kernel
theorem dL_law_1096 : decode cL_law 1096 = .ok (.iaload, 1) := by decide +kernel
theorem dL_law_1097 : decode cL_law 1097 = .ok (.aload_n 0, 1) := by decide +kernel
theorem dL_law_1098 : decode cL_law 1098 = .ok (.iload_n 3, 1) := by decide +kernel
theorem dL_law_1099 : decode cL_law 1099 = .ok (.iconst 3, 1) := by decide +kernel
theorem dL_law_1100 : decode cL_law 1100 = .ok (.iadd, 1) := by decide +kernel
theorem dL_law_1101 : decode cL_law 1101 = .ok (.iaload, 1) := by decide +kernel
theorem dL_law_1102 : decode cL_law 1102 = .ok (.aload_n 0, 1) := by decide +kernel
theorem dL_law_1103 : decode cL_law 1103 = .ok (.iload_n 3, 1) := by decide +kernel
theorem dL_law_1104 : decode cL_law 1104 = .ok (.iconst 4, 1) := by decide +kernel
theorem dL_law_1105 : decode cL_law 1105 = .ok (.iadd, 1) := by decide +kernel
theorem dL_law_1106 : decode cL_law 1106 = .ok (.iaload, 1) := by decide +kernel
theorem dL_law_1107 : decode cL_law 1107 = .ok (.aload_n 0, 1) := by decide +kernel
theorem dL_law_1108 : decode cL_law 1108 = .ok (.iload_n 3, 1) := by decide +kernel
theorem dL_law_1109 : decode cL_law 1109 = .ok (.iconst 5, 1) := by decide +kernel
theorem dL_law_1110 : decode cL_law 1110 = .ok (.iadd, 1) := by decide +kernel
theorem dL_law_1111 : decode cL_law 1111 = .ok (.iaload, 1) := by decide +kernel
theorem dL_law_1112 : decode cL_law 1112 = .ok (.invokevirtual 120, 3) := by decide +kernel
theorem dL_law_1115 : decode cL_law 1115 = .ok (.if_icmp .eq 133, 3) := by decide +kernel
theorem dL_law_1118 : decode cL_law 1118 = .ok (.iconst 0, 1) := by decide +kernel
theorem dL_law_1119 : decode cL_law 1119 = .ok (.ireturn, 1) := by decide +kernel
theorem dL_law_1120 : decode cL_law 1120 = .ok (.aload_n 1, 1) := by decide +kernel
theorem dL_law_1121 : decode cL_law 1121 = .ok (.aload_n 0, 1) := by decide +kernel
theorem dL_law_1122 : decode cL_law 1122 = .ok (.iload_n 3, 1) := by decide +kernel
theorem dL_law_1123 : decode cL_law 1123 = .ok (.iconst 1, 1) := by decide +kernel
theorem dL_law_1124 : decode cL_law 1124 = .ok (.iadd, 1) := by decide +kernel
theorem dL_law_1125 : decode cL_law 1125 = .ok (.iaload, 1) := by decide +kernel
theorem dL_law_1126 : decode cL_law 1126 = .ok (.invokevirtual 121, 3) := by decide +kernel
theorem dL_law_1129 : decode cL_law 1129 = .ok (.aload_n 2, 1) := by decide +kernel
theorem dL_law_1130 : decode cL_law 1130 = .ok (.aload_n 0, 1) := by decide +kernel
theorem dL_law_1131 : decode cL_law 1131 = .ok (.iload_n 3, 1) := by decide +kernel
theorem dL_law_1132 : decode cL_law 1132 = .ok (.iconst 1, 1) := by decide +kernel
theorem dL_law_1133 : decode cL_law 1133 = .ok (.iadd, 1) := by decide +kernel
theorem dL_law_1134 : decode cL_law 1134 = .ok (.iaload, 1) := by decide +kernel
theorem dL_law_1135 : decode cL_law 1135 = .ok (.invokevirtual 124, 3) := by decide +kernel
theorem dL_law_1138 : decode cL_law 1138 = .ok (.if_icmp .eq 110, 3) := by decide +kernel
theorem dL_law_1141 : decode cL_law 1141 = .ok (.iconst 0, 1) := by decide +kernel
theorem dL_law_1142 : decode cL_law 1142 = .ok (.ireturn, 1) := by decide +kernel
theorem dL_law_1143 : decode cL_law 1143 = .ok (.aload_n 1, 1) := by decide +kernel
theorem dL_law_1144 : decode cL_law 1144 = .ok (.aload_n 0, 1) := by decide +kernel
theorem dL_law_1145 : decode cL_law 1145 = .ok (.iload_n 3, 1) := by decide +kernel
theorem dL_law_1146 : decode cL_law 1146 = .ok (.iconst 1, 1) := by decide +kernel
theorem dL_law_1147 : decode cL_law 1147 = .ok (.iadd, 1) := by decide +kernel
theorem dL_law_1148 : decode cL_law 1148 = .ok (.iaload, 1) := by decide +kernel
theorem dL_law_1149 : decode cL_law 1149 = .ok (.invokevirtual 125, 3) := by decide +kernel
theorem dL_law_1152 : decode cL_law 1152 = .ok (.aload_n 2, 1) := by decide +kernel
theorem dL_law_1153 : decode cL_law 1153 = .ok (.aload_n 0, 1) := by decide +kernel
theorem dL_law_1154 : decode cL_law 1154 = .ok (.iload_n 3, 1) := by decide +kernel
theorem dL_law_1155 : decode cL_law 1155 = .ok (.iconst 1, 1) := by decide +kernel
theorem dL_law_1156 : decode cL_law 1156 = .ok (.iadd, 1) := by decide +kernel
theorem dL_law_1157 : decode cL_law 1157 = .ok (.iaload, 1) := by decide +kernel
theorem dL_law_1158 : decode cL_law 1158 = .ok (.invokevirtual 128, 3) := by decide +kernel
theorem dL_law_1161 : decode cL_law 1161 = .ok (.if_icmp .eq 87, 3) := by decide +kernel
theorem dL_law_1164 : decode cL_law 1164 = .ok (.iconst 0, 1) := by decide +kernel
theorem dL_law_1165 : decode cL_law 1165 = .ok (.ireturn, 1) := by decide +kernel
theorem dL_law_1166 : decode cL_law 1166 = .ok (.aload_n 1, 1) := by decide +kernel
theorem dL_law_1167 : decode cL_law 1167 = .ok (.aload_n 0, 1) := by decide +kernel
theorem dL_law_1168 : decode cL_law 1168 = .ok (.iload_n 3, 1) := by decide +kernel
theorem dL_law_1169 : decode cL_law 1169 = .ok (.iconst 1, 1) := by decide +kernel
theorem dL_law_1170 : decode cL_law 1170 = .ok (.iadd, 1) := by decide +kernel
theorem dL_law_1171 : decode cL_law 1171 = .ok (.iaload, 1) := by decide +kernel
theorem dL_law_1172 : decode cL_law 1172 = .ok (.aload_n 0, 1) := by decide +kernel
theorem dL_law_1173 : decode cL_law 1173 = .ok (.iload_n 3, 1) := by decide +kernel
theorem dL_law_1174 : decode cL_law 1174 = .ok (.iconst 2, 1) := by decide +kernel
theorem dL_law_1175 : decode cL_law 1175 = .ok (.iadd, 1) := by decide +kernel
theorem dL_law_1176 : decode cL_law 1176 = .ok (.iaload, 1) := by decide +kernel
theorem dL_law_1177 : decode cL_law 1177 = .ok (.invokevirtual 129, 3) := by decide +kernel
theorem dL_law_1180 : decode cL_law 1180 = .ok (.aload_n 2, 1) := by decide +kernel
theorem dL_law_1181 : decode cL_law 1181 = .ok (.aload_n 0, 1) := by decide +kernel
theorem dL_law_1182 : decode cL_law 1182 = .ok (.iload_n 3, 1) := by decide +kernel
theorem dL_law_1183 : decode cL_law 1183 = .ok (.iconst 1, 1) := by decide +kernel
theorem dL_law_1184 : decode cL_law 1184 = .ok (.iadd, 1) := by decide +kernel
theorem dL_law_1185 : decode cL_law 1185 = .ok (.iaload, 1) := by decide +kernel
theorem dL_law_1186 : decode cL_law 1186 = .ok (.aload_n 0, 1) := by decide +kernel
theorem dL_law_1187 : decode cL_law 1187 = .ok (.iload_n 3, 1) := by decide +kernel
theorem dL_law_1188 : decode cL_law 1188 = .ok (.iconst 2, 1) := by decide +kernel
theorem dL_law_1189 : decode cL_law 1189 = .ok (.iadd, 1) := by decide +kernel
theorem dL_law_1190 : decode cL_law 1190 = .ok (.iaload, 1) := by decide +kernel
theorem dL_law_1191 : decode cL_law 1191 = .ok (.invokevirtual 132, 3) := by decide +kernel
theorem dL_law_1194 : decode cL_law 1194 = .ok (.if_icmp .eq 54, 3) := by decide +kernel
theorem dL_law_1197 : decode cL_law 1197 = .ok (.iconst 0, 1) := by decide +kernel
theorem dL_law_1198 : decode cL_law 1198 = .ok (.ireturn, 1) := by decide +kernel
theorem dL_law_1199 : decode cL_law 1199 = .ok (.aload_n 1, 1) := by decide +kernel
theorem dL_law_1200 : decode cL_law 1200 = .ok (.invokevirtual 133, 3) := by decide +kernel
theorem dL_law_1203 : decode cL_law 1203 = .ok (.aload_n 2, 1) := by decide +kernel
theorem dL_law_1204 : decode cL_law 1204 = .ok (.invokevirtual 136, 3) := by decide +kernel
theorem dL_law_1207 : decode cL_law 1207 = .ok (.if_icmp .eq 41, 3) := by decide +kernel
theorem dL_law_1210 : decode cL_law 1210 = .ok (.iconst 0, 1) := by decide +kernel
theorem dL_law_1211 : decode cL_law 1211 = .ok (.ireturn, 1) := by decide +kernel
theorem dL_law_1212 : decode cL_law 1212 = .ok (.aload_n 1, 1) := by decide +kernel
theorem dL_law_1213 : decode cL_law 1213 = .ok (.invokevirtual 137, 3) := by decide +kernel
theorem dL_law_1216 : decode cL_law 1216 = .ok (.aload_n 2, 1) := by decide +kernel
theorem dL_law_1217 : decode cL_law 1217 = .ok (.invokevirtual 140, 3) := by decide +kernel
theorem dL_law_1220 : decode cL_law 1220 = .ok (.if_icmp .eq 28, 3) := by decide +kernel
theorem dL_law_1223 : decode cL_law 1223 = .ok (.iconst 0, 1) := by decide +kernel
theorem dL_law_1224 : decode cL_law 1224 = .ok (.ireturn, 1) := by decide +kernel
theorem dL_law_1225 : decode cL_law 1225 = .ok (.aload_n 1, 1) := by decide +kernel
theorem dL_law_1226 : decode cL_law 1226 = .ok (.aload_n 0, 1) := by decide +kernel
theorem dL_law_1227 : decode cL_law 1227 = .ok (.iload_n 3, 1) := by decide +kernel
theorem dL_law_1228 : decode cL_law 1228 = .ok (.iconst 1, 1) := by decide +kernel
theorem dL_law_1229 : decode cL_law 1229 = .ok (.iadd, 1) := by decide +kernel
theorem dL_law_1230 : decode cL_law 1230 = .ok (.iaload, 1) := by decide +kernel
theorem dL_law_1231 : decode cL_law 1231 = .ok (.invokevirtual 141, 3) := by decide +kernel
theorem dL_law_1234 : decode cL_law 1234 = .ok (.aload_n 2, 1) := by decide +kernel
theorem dL_law_1235 : decode cL_law 1235 = .ok (.aload_n 0, 1) := by decide +kernel
theorem dL_law_1236 : decode cL_law 1236 = .ok (.iload_n 3, 1) := by decide +kernel
theorem dL_law_1237 : decode cL_law 1237 = .ok (.iconst 1, 1) := by decide +kernel
theorem dL_law_1238 : decode cL_law 1238 = .ok (.iadd, 1) := by decide +kernel
theorem dL_law_1239 : decode cL_law 1239 = .ok (.iaload, 1) := by decide +kernel
theorem dL_law_1240 : decode cL_law 1240 = .ok (.invokevirtual 144, 3) := by decide +kernel
theorem dL_law_1243 : decode cL_law 1243 = .ok (.if_icmp .eq 5, 3) := by decide +kernel
theorem dL_law_1246 : decode cL_law 1246 = .ok (.iconst 0, 1) := by decide +kernel
theorem dL_law_1247 : decode cL_law 1247 = .ok (.ireturn, 1) := by decide +kernel
theorem dL_law_1248 : decode cL_law 1248 = .ok (.iinc 3 6, 3) := by decide +kernel
theorem dL_law_1251 : decode cL_law 1251 = .ok (.goto (-1233), 3) := by decide +kernel
theorem dL_law_1254 : decode cL_law 1254 = .ok (.iconst 1, 1) := by decide +kernel
theorem dL_law_1255 : decode cL_law 1255 = .ok (.ireturn, 1) := by decide +kernel
end
section
/-! THE PURE MACHINE: a frame and a memory of whole numbers; addresses are offsets into the region that the law's two objects fill -/
abbrev PV : Type := Int ⊕ (Option Int ⊕ Int)
abbrev vI (z : Int) : PV := .inl z
abbrev vR (a : Int) : PV := .inr (.inl (some a))
abbrev vN : PV := .inr (.inl none)
abbrev vL (z : Int) : PV := .inr (.inr z)
abbrev ME : Type := (Nat × (Int → Int)) ⊕ ((Nat × Nat × (Int → Option Int)) ⊕ (Nat × List PV))
abbrev mA (n : Nat) (f : Int → Int) : ME := .inl (n, f)
abbrev mR (t n : Nat) (f : Int → Option Int) : ME := .inr (.inl (t, n, f))
abbrev mO (ci : Nat) (fs : List PV) : ME := .inr (.inr (ci, fs))
/-- launch; classes' numbers and slots; array classes; the region's first cell -/
abbrev KX : Type := Launch × va_G × (Nat → ClassId) × Nat
abbrev CX : Type := Program × Env × Room × State × MethodId × Array Value × List Frame × Method × Code × Nat × Nat
def kad (K : KX) (a : Int) : Nat := ((K.2.2.2 : Int) + a).toNat
def eV (K : KX) : PV → Value
  | .inl z => .int (Int32.ofInt z)
  | .inr (.inl r) => va_rf (r.map (kad K))
  | .inr (.inr z) => .long (Int64.ofInt z)
def eM (K : KX) : ME → va_E
  | .inl q => .inl (K.2.2.1 0, q.1, .inl (fun j => Int32.ofInt (q.2 (j : Int))))
  | .inr (.inl q) => .inl (K.2.2.1 (q.1 + 1), q.2.1, .inr (.inr (.inr (.inr (fun j => (q.2.2 (j : Int)).map (kad K))))))
  | .inr (.inr q) => .inr (q.1, q.2.map (eV K))
abbrev eL (K : KX) (q : Nat × PV) : Nat × Value := (q.1, eV K q.2)
def wld (K : KX) (μ : Int → ME) : va_W := (List.range 60).map (fun i => (K.2.2.2 + i, eM K (μ (i : Int))))
def reg (K : KX) : Nat → Prop := fun q => K.2.2.2 ≤ q ∧ q < K.2.2.2 + 60
def mup (μ : Int → ME) (a : Int) (o : ME) : Int → ME := fun j => if j = a then o else μ j
theorem mup_s (μ : Int → ME) (a : Int) (o : ME) : mup μ a o a = o := if_pos rfl
theorem mup_n (μ : Int → ME) (a : Int) (o : ME) {j : Int} (h : j ≠ a) : mup μ a o j = μ j := if_neg h
def fup (f : Int → Int) (i v : Int) : Int → Int := fun j => if j = i then v else f j
theorem fup_s (f : Int → Int) (i v : Int) : fup f i v i = v := if_pos rfl
theorem fup_n (f : Int → Int) (i v : Int) {j : Int} (h : j ≠ i) : fup f i v j = f j := if_neg h
abbrev rng (z : Int) : Prop := -2147483648 ≤ z ∧ z < 2147483648
abbrev rnL (z : Int) : Prop := -9223372036854775808 ≤ z ∧ z < 9223372036854775808
def okV : PV → Prop
  | .inl z => rng z
  | .inr (.inl _) => True
  | .inr (.inr z) => rnL z
def okM : ME → Prop
  | .inl q => ∀ j : Int, 0 ≤ j → j < (q.1 : Int) → rng (q.2 j)
  | .inr (.inl _) => True
  | .inr (.inr q) => ∀ v ∈ q.2, okV v
def okU (K : KX) (μ : Int → ME) : Prop := ∀ a : Int, 0 ≤ a → a < 60 → okM (μ a)
def okL (ls : List (Nat × PV)) : Prop := ∀ q ∈ ls, okV q.2
def okS (st : List PV) : Prop := ∀ v ∈ st, okV v
abbrev IR (a : Int) : Prop := 0 ≤ a ∧ a < 60
abbrev classes : List vw_C := [(RX0, TX0, 4), (RX1, TX1, 5), (RX2, TX2, 5), (RX3, TX3, 3), (RX4, TX4, 16), (RX5, TX5, 31)]
abbrev ktys (K : KX) : List (ClassId × FieldType) := [(K.2.2.1 0, .int), (K.2.2.1 1, .object RX1), (K.2.2.1 2, .object RX0)]
/-- the good words, one list for all methods -/
def GW : List Cond := lw_tbl.filter goodWord
theorem GW_good : ∀ w ∈ GW, goodWord w = true := fun _ h => (List.mem_filter.mp h).2
theorem GW_of {w : Cond} (i : Nat) (h : lw_tbl[i]? = some w) (g : goodWord w = true) : w ∈ GW := List.mem_filter.mpr ⟨List.mem_of_getElem? h, g⟩
theorem GW_in {y : MethodName} {bytes : ByteArray} {n : Nat} {ret : Option FieldType} (h : Cond.code y bytes n ret ∈ GW) : GoodIn GW (.code y bytes n ret :: GW) := fun w hw => by
  rcases List.mem_cons.mp hw with rfl | hw
  · exact ⟨h, good_of_word (GW_good _ h)⟩
  · exact ⟨hw, good_of_word (GW_good _ hw)⟩
/-- words on private members of nest mates: own, place, callee, host -/
def nestW : List (String × Nat × MethodName × String) := [(RX4, 26, yX3_init, RX4), (RX4, 33, yX2_init, RX4), (RX4, 56, yX1_init, RX4), (RX4, 57, yX0_init, RX4), (RX0, 26, yX4_isUpTo, RX4), (RX0, 33, yX4_isBelow, RX4), (RX1, 22, yX4_bearingOf, RX4), (RX1, 29, yX4_worthOfAll, RX4), (RX3, 21, yX4_worthOf, RX4), (RX1, 37, yX4_isGood, RX4), (RX1, 41, yX4_isUpTo, RX4), (RX2, 45, yX4_fillLosses, RX4), (RX2, 49, yX4_worthOfAll, RX4)]
def NW (U : State) : Prop := ∀ q ∈ nestW, va_Nw (.methodLinkNest q.1 q.2.1 q.2.2.1 q.2.2.2) U
theorem NW.warm {s U : State} (hW : s.WarmedH U.vm) (h : NW s) : NW U := fun q hq => (h q hq).warmM hW
theorem NW.same {s U : State} (hv : s.vm = U.vm) (h : NW s) : NW U := fun q hq => (h q hq).same rfl hv
def KW (K : KX) (U : State) : Prop := va_K K.2.1 classes (ktys K) U ∧ NW U
theorem KW.warm {K : KX} {s U : State} (hW : s.WarmedH U.vm) (h : KW K s) : KW K U := ⟨va_K.moved hW.alike h.1, h.2.warm hW⟩
abbrev LWD : Nat := 31
abbrev rmd (d : Nat) : Room := { frames := d, cells := 0, slots := 0, locals := 31 * d }
def okX (K : KX) (X : CX) (cc : ByteArray) (own : String) (nL d : Nat) (ret : Option FieldType) : Prop :=
  X.1.tables.exec = Jvm.exec ∧ X.2.2.2.2.2.2.2.2.1.code = cc ∧ X.2.2.2.2.2.2.2.2.1.maxLocals = nL ∧ X.2.2.2.1.vm.findClass own = some X.2.2.2.2.1.cls ∧
  (∀ w ∈ GW, w.before X.2.2.2.2.2.1 X.2.2.2.1 = true) ∧ KW K X.2.2.2.1 ∧ X.2.2.2.2.2.2.2.1.locks = false ∧ X.2.2.2.2.2.2.2.1.sig.returnType = ret ∧
  (d ≤ X.2.2.1.frames ∧ 31 * d ≤ X.2.2.1.locals) ∧ X.2.2.2.2.2.2.2.2.2.1 ≤ X.2.2.1.cells ∧ X.2.2.2.2.2.2.2.2.2.2 ≤ X.2.2.1.slots
/-- from this frame and this memory the machine comes to a state with Q -/
def PW (K : KX) (X : CX) (nL : Nat) (Q : State → Prop) (pc : Nat) (ls : List (Nat × PV)) (st : List PV) (μ : Int → ME) : Prop :=
  ∀ (H : Heap) (locs : List Loc) (la : Array Slot), va_P K.2.1 classes (wld K μ) H → va_S (reg K) X.2.2.2.1.heap H locs → lv_has la nL (ls.map (eL K)) → okU K μ → okL ls → okS st →
    W X.1 K.1 X.2.1 X.2.2.1 X.2.2.2.1 X.2.2.2.2.1 X.2.2.2.2.2.1 X.2.2.2.2.2.2.1 X.2.2.2.2.2.2.2.1 X.2.2.2.2.2.2.2.2.1 H locs X.2.2.2.2.2.2.2.2.2.1 X.2.2.2.2.2.2.2.2.2.2 Q (F0 X.2.2.2.2.1 pc la (st.map (eV K)))
/-- a method's end -/
def Qct (K : KX) (Post : Option PV → (Int → ME) → Prop) : Array Value → State → Outcome → State → Prop := fun _ st oc t =>
  (∃ (r : Option PV) (μ' : Int → ME), oc = .returned (r.map (eV K)) ∧ Post r μ' ∧ okU K μ' ∧ okS r.toList ∧ va_P K.2.1 classes (wld K μ') t.heap ∧ KW K t) ∧ va_F (reg K) st t
def QM (K : KX) (X : CX) (Post : Option PV → (Int → ME) → Prop) : State → Prop := MQ X.2.2.2.2.2.2.1 (Qct K Post) X.2.2.2.2.2.1 X.2.2.2.1 X.2.2.2.2.2.2.2.2.2.1 X.2.2.2.2.2.2.2.2.2.2 (reg K)
def Pct (K : KX) (av : List PV) (μ : Int → ME) : Array Value → State → Prop := va_Pc (av.map (eV K)) (fun U => va_P K.2.1 classes (wld K μ) U.heap ∧ KW K U)
/-- a method's CONTRACT: with d frames left, from this memory and these arguments -/
def Ct (K : KX) (d : Nat) (y : MethodName) (bytes : ByteArray) (maxL : Nat) (ret : Option FieldType) (av : List PV) (μ : Int → ME) (Post : Option PV → (Int → ME) → Prop) : Prop :=
  okU K μ → okS av → Met K.1 y (.code y bytes maxL ret :: GW) (rmd d) (Pct K av μ) (Qct K Post) 0 0 (reg K)
-- numbers
theorem zi {z : Int} (h : rng z) : (Int32.ofInt z).toInt = z := Int32.toInt_ofInt_of_le h.1 h.2
theorem zl {z : Int} (h : rnL z) : (Int64.ofInt z).toInt = z := Int64.toInt_ofInt_of_le h.1 h.2
theorem zi_lt {x y : Int} (hx : rng x) (hy : rng y) : Int32.ofInt x < Int32.ofInt y ↔ x < y := by rw [Int32.lt_iff_toInt_lt, zi hx, zi hy]
theorem zi_le {x y : Int} (hx : rng x) (hy : rng y) : Int32.ofInt x ≤ Int32.ofInt y ↔ x ≤ y := by rw [Int32.le_iff_toInt_le, zi hx, zi hy]
theorem zi_eq {x y : Int} (hx : rng x) (hy : rng y) : Int32.ofInt x = Int32.ofInt y ↔ x = y := by rw [← Int32.toInt_inj, zi hx, zi hy]
theorem rng_i (x : Int32) : rng x.toInt := ⟨Int32.le_toInt x, Int32.toInt_lt x⟩
theorem rng_l (x : Int64) : rnL x.toInt := ⟨Int64.le_toInt x, Int64.toInt_lt x⟩
theorem zi_cl {z : Int} (h : rng z) : (Int32.ofInt z).toNatClampNeg = z.toNat := by rw [← Int32.toNat_toInt, zi h]
theorem zi_in {z : Int} {n : Nat} (h0 : 0 ≤ z) (h1 : z < (n : Int)) (h : rng z) : vp_in (Int32.ofInt z) n := by
  rw [vp_in_iff, zi h]; exact ⟨h0, h1⟩
theorem b2v {n : Int} (h : -128 ≤ n ∧ n < 128) : (Int8.ofInt n).toInt32 = Int32.ofInt n := by
  rw [← Int32.toInt_inj, Int8.toInt_toInt32, Int8.toInt_ofInt_of_le h.1 h.2, zi ⟨by omega, by omega⟩]
theorem s2v {n : Int} (h : -32768 ≤ n ∧ n < 32768) : (Int16.ofInt n).toInt32 = Int32.ofInt n := by
  rw [← Int32.toInt_inj, Int16.toInt_toInt32, Int16.toInt_ofInt_of_le h.1 h.2, zi ⟨by omega, by omega⟩]
def iwr (z : Int) : Int := (Int32.ofInt z).toInt
theorem iwr_r (z : Int) : rng (iwr z) := rng_i _
theorem iwr_e (z : Int) : Int32.ofInt (iwr z) = Int32.ofInt z := Int32.ofInt_toInt _
theorem iwr_id {z : Int} (h : rng z) : iwr z = z := zi h
def iOr (x y : Int) : Int := (Int32.ofInt x ||| Int32.ofInt y).toInt
def iAnd (x y : Int) : Int := (Int32.ofInt x &&& Int32.ofInt y).toInt
def iShl (x y : Int) : Int := (Int32.ofInt x <<< (Int32.ofInt y &&& 31)).toInt
def iShr (x y : Int) : Int := (Int32.ofInt x >>> (Int32.ofInt y &&& 31)).toInt
def iUshr (x y : Int) : Int := ((Int32.ofInt x).toUInt32 >>> ((Int32.ofInt y).toUInt32 &&& Int32.toUInt32 31)).toInt32.toInt
def i2b (x : Int) : Int := (Int32.ofInt x).toInt8.toInt32.toInt
def i2s (x : Int) : Int := (Int32.ofInt x).toInt16.toInt32.toInt
-- lists
theorem okS.tl {v : PV} {st : List PV} (h : okS (v :: st)) : okS st := fun w hw => h w (List.mem_cons_of_mem _ hw)
theorem okS.hd {v : PV} {st : List PV} (h : okS (v :: st)) : okV v := h v List.mem_cons_self
theorem okS.cons {v : PV} {st : List PV} (hv : okV v) (h : okS st) : okS (v :: st) := fun w hw => by
  rcases List.mem_cons.mp hw with rfl | hw
  · exact hv
  · exact h w hw
theorem okS.nil : okS [] := fun _ h => by cases h
theorem okS.app {a b : List PV} (ha : okS a) (hb : okS b) : okS (a ++ b) := fun v hv => (List.mem_append.mp hv).elim (ha v) (hb v)
def lk : List (Nat × PV) → Nat → Option PV
  | [], _ => none
  | (j, v) :: l, i => bif j == i then some v else lk l i
theorem lk_mem : ∀ {ls : List (Nat × PV)} {i : Nat} {v : PV}, lk ls i = some v → (i, v) ∈ ls
  | [], i, v, h => by cases h
  | (j, w) :: l, i, v, h => by
    simp only [lk] at h
    cases hji : (j == i) with
    | true =>
      rw [hji] at h
      cases h
      rw [beq_iff_eq] at hji
      subst hji
      exact List.mem_cons_self
    | false =>
      rw [hji] at h
      exact List.mem_cons_of_mem _ (lk_mem h)
theorem lk_at {K : KX} {la : Array Slot} {nL : Nat} {ls : List (Nat × PV)} {i : Nat} {v : PV} (hl : lv_has la nL (ls.map (eL K))) (h : lk ls i = some v) : la[i]? = some (.val (eV K v)) :=
  hl.2.2 (i, eV K v) (List.mem_map.mpr ⟨(i, v), lk_mem h, rfl⟩)
theorem okL_at {ls : List (Nat × PV)} {i : Nat} {v : PV} (h : okL ls) (hk : lk ls i = some v) : okV v := h (i, v) (lk_mem hk)
def isL : PV → Bool
  | .inr (.inr _) => true
  | _ => false
theorem cat_eV (K : KX) (v : PV) : (eV K v).category = if isL v = true then 2 else 1 := by
  match v with
  | .inl _ => rfl
  | .inr (.inl none) => rfl
  | .inr (.inl (some _)) => rfl
  | .inr (.inr _) => rfl
/-- a local is set -/
def sl (ls : List (Nat × PV)) (i : Nat) (v : PV) : List (Nat × PV) := (i, v) :: ls.filter (fun q => !(q.1 == i) && !(q.1 + 1 == i && isL q.2))
def slL (ls : List (Nat × PV)) (i : Nat) (v : PV) : List (Nat × PV) := (i, v) :: ls.filter (fun q => !(q.1 == i) && (!(q.1 == i + 1) && !(q.1 + 1 == i && isL q.2)))
theorem isL_cat (K : KX) (v : PV) : ((eV K v).category == 2) = isL v := by
  rw [cat_eV]; cases isL v <;> rfl
theorem sl_map (K : KX) (ls : List (Nat × PV)) (i : Nat) (v : PV) : (i, eV K v) :: (ls.map (eL K)).filter (fun q => !(q.1 == i) && !(q.1 + 1 == i && q.2.category == 2)) = (sl ls i v).map (eL K) := by
  unfold sl
  rw [List.map_cons, List.filter_map]
  congr 2
  apply List.filter_congr
  intro q _
  simp only [Function.comp, isL_cat]
theorem slL_map (K : KX) (ls : List (Nat × PV)) (i : Nat) (v : PV) : (i, eV K v) :: (ls.map (eL K)).filter (fun q => !(q.1 == i) && (!(q.1 == i + 1) && !(q.1 + 1 == i && q.2.category == 2))) = (slL ls i v).map (eL K) := by
  unfold slL
  rw [List.map_cons, List.filter_map]
  congr 2
  apply List.filter_congr
  intro q _
  simp only [Function.comp, isL_cat]
theorem okL_sl {ls : List (Nat × PV)} {i : Nat} {v : PV} (h : okL ls) (hv : okV v) : okL (sl ls i v) := fun q hq => by
  rcases List.mem_cons.mp hq with rfl | hq
  · exact hv
  · exact h q (List.mem_filter.mp hq).1
theorem okL_slL {ls : List (Nat × PV)} {i : Nat} {v : PV} (h : okL ls) (hv : okV v) : okL (slL ls i v) := fun q hq => by
  rcases List.mem_cons.mp hq with rfl | hq
  · exact hv
  · exact h q (List.mem_filter.mp hq).1
/-- the locals with which a method begins -/
def argl : Nat → List PV → List (Nat × PV)
  | _, [] => []
  | i, v :: vs => (i, v) :: argl (bif isL v then i + 2 else i + 1) vs
theorem argl_map (K : KX) : ∀ (i : Nat) (vs : List PV), lv_args i (vs.map (eV K)) = (argl i vs).map (eL K)
  | _, [] => rfl
  | i, v :: vs => by
    simp only [List.map_cons, lv_args, argl]
    rw [← argl_map K, cat_eV]
    cases isL v <;> rfl
theorem okL_argl : ∀ {i : Nat} {vs : List PV}, okS vs → okL (argl i vs)
  | _, [], _ => fun _ h => by cases h
  | i, v :: vs, h => fun q hq => by
    rcases List.mem_cons.mp hq with rfl | hq
    · exact h.hd
    · exact okL_argl h.tl q hq
-- the world
theorem wld_at {K : KX} {a : Int} (μ : Int → ME) (h : IR a) : (wld K μ)[a.toNat]? = some (kad K a, eM K (μ a)) := by
  unfold wld
  have hl : a.toNat < 60 := by omega
  rw [List.getElem?_map, List.getElem?_range hl]
  have e1 : ((a.toNat : Nat) : Int) = a := by omega
  have e2 : K.2.2.2 + a.toNat = kad K a := by unfold kad; omega
  simp only [Option.map_some, e1, e2]
theorem wld_set {K : KX} {a : Int} {μ : Int → ME} {o : ME} (h : IR a) : (wld K μ).set a.toNat (kad K a, eM K o) = wld K (mup μ a o) := by
  apply List.ext_getElem?
  intro j
  by_cases hj : j = a.toNat
  · subst hj
    have hl : a.toNat < (wld K μ).length := by unfold wld; simp; omega
    rw [List.getElem?_set_self hl, wld_at _ h, mup_s]
  · rw [List.getElem?_set_ne (fun q => hj q.symm)]
    unfold wld
    rw [List.getElem?_map, List.getElem?_map]
    by_cases hl : j < 60
    · rw [List.getElem?_range hl]
      simp only [Option.map_some]
      rw [mup_n _ _ _ (by omega)]
    · rw [List.getElem?_eq_none (by simpa using hl)]
      rfl
theorem wld_D (K : KX) (μ : Int → ME) : va_D (reg K) (wld K μ) := by
  have key : ∀ (i : Nat) (p : Nat × va_E), (wld K μ)[i]? = some p → i < 60 ∧ p.1 = K.2.2.2 + i := by
    intro i p h
    unfold wld at h
    rw [List.getElem?_map] at h
    by_cases hl : i < 60
    · rw [List.getElem?_range hl] at h
      cases h
      exact ⟨hl, rfl⟩
    · rw [List.getElem?_eq_none (by simpa using hl)] at h
      cases h
  refine ⟨fun i j p q hi hj hpq => ?_, fun k q hk => ?_⟩
  · have h1 := (key i p hi).2
    have h2 := (key j q hj).2
    omega
  · have h1 := key k q hk
    unfold reg
    omega
theorem okU_mup {K : KX} {μ : Int → ME} {a : Int} {o : ME} (h : okU K μ) (ho : okM o) : okU K (mup μ a o) := fun j h0 h1 => by
  unfold mup
  split
  · exact ho
  · exact h j h0 h1
end
section
/-! ROWS of the pure machine: an instruction, a row -/
section PMROWS
variable {K : KX} {X : CX} {nL d : Nat} {Q : State → Prop} {cc : ByteArray} {own : String} {ret : Option FieldType} {pc : Nat} {ls : List (Nat × PV)} {st : List PV} {μ : Int → ME}
theorem p_iconst (C : okX K X cc own nL d ret) {n : Int} (dg : decode cc pc = .ok (.iconst n, 1)) (hr : rng n := by decide) (k : PW K X nL Q (pc + 1) ls (vI n :: st) μ) : PW K X nL Q pc ls st μ := fun H locs la hP hS hl hμ hL hs =>
  lv_iconst C.1 C.2.1 dg rfl (k H locs la hP hS hl hμ hL (hs.cons hr))
theorem p_bipush (C : okX K X cc own nL d ret) {n : Int} (dg : decode cc pc = .ok (.bipush n, 2)) (hn : -128 ≤ n ∧ n < 128 := by decide) (k : PW K X nL Q (pc + 2) ls (vI n :: st) μ) : PW K X nL Q pc ls st μ := fun H locs la hP hS hl hμ hL hs =>
  lv_bipush C.1 C.2.1 dg (b2v hn) (k H locs la hP hS hl hμ hL (hs.cons (by show rng n; omega)))
theorem p_sipush (C : okX K X cc own nL d ret) {n : Int} (dg : decode cc pc = .ok (.sipush n, 3)) (hn : -32768 ≤ n ∧ n < 32768 := by decide) (k : PW K X nL Q (pc + 3) ls (vI n :: st) μ) : PW K X nL Q pc ls st μ := fun H locs la hP hS hl hμ hL hs =>
  lv_sipush C.1 C.2.1 dg (s2v hn) (k H locs la hP hS hl hμ hL (hs.cons (by show rng n; omega)))
theorem p_iload_n (C : okX K X cc own nL d ret) {i : Fin 4} {z : Int} (dg : decode cc pc = .ok (.iload_n i, 1)) (h : lk ls i = some (vI z)) (k : PW K X nL Q (pc + 1) ls (vI z :: st) μ) : PW K X nL Q pc ls st μ := fun H locs la hP hS hl hμ hL hs =>
  lv_iload_n C.1 C.2.1 dg rfl (lk_at hl h) (k H locs la hP hS hl hμ hL (hs.cons (okL_at hL h)))
theorem p_iload (C : okX K X cc own nL d ret) {i : Nat} {z : Int} (dg : decode cc pc = .ok (.iload i, 2)) (h : lk ls i = some (vI z)) (k : PW K X nL Q (pc + 2) ls (vI z :: st) μ) : PW K X nL Q pc ls st μ := fun H locs la hP hS hl hμ hL hs =>
  lv_iload C.1 C.2.1 dg (lk_at hl h) (k H locs la hP hS hl hμ hL (hs.cons (okL_at hL h)))
theorem p_lload_n (C : okX K X cc own nL d ret) {i : Fin 4} {z : Int} (dg : decode cc pc = .ok (.lload_n i, 1)) (h : lk ls i = some (vL z)) (k : PW K X nL Q (pc + 1) ls (vL z :: st) μ) : PW K X nL Q pc ls st μ := fun H locs la hP hS hl hμ hL hs =>
  lv_lload_n C.1 C.2.1 dg rfl (lk_at hl h) (k H locs la hP hS hl hμ hL (hs.cons (okL_at hL h)))
theorem p_lload (C : okX K X cc own nL d ret) {i : Nat} {z : Int} (dg : decode cc pc = .ok (.lload i, 2)) (h : lk ls i = some (vL z)) (k : PW K X nL Q (pc + 2) ls (vL z :: st) μ) : PW K X nL Q pc ls st μ := fun H locs la hP hS hl hμ hL hs =>
  lv_lload C.1 C.2.1 dg (lk_at hl h) (k H locs la hP hS hl hμ hL (hs.cons (okL_at hL h)))
theorem p_aload_n (C : okX K X cc own nL d ret) {i : Fin 4} {a : Int} (dg : decode cc pc = .ok (.aload_n i, 1)) (h : lk ls i = some (vR a)) (k : PW K X nL Q (pc + 1) ls (vR a :: st) μ) : PW K X nL Q pc ls st μ := fun H locs la hP hS hl hμ hL hs =>
  lv_aload_n C.1 C.2.1 dg rfl (lk_at hl h) (k H locs la hP hS hl hμ hL (hs.cons (okL_at hL h)))
theorem p_aload (C : okX K X cc own nL d ret) {i : Nat} {a : Int} (dg : decode cc pc = .ok (.aload i, 2)) (h : lk ls i = some (vR a)) (k : PW K X nL Q (pc + 2) ls (vR a :: st) μ) : PW K X nL Q pc ls st μ := fun H locs la hP hS hl hμ hL hs =>
  lv_aload C.1 C.2.1 dg (lk_at hl h) (k H locs la hP hS hl hμ hL (hs.cons (okL_at hL h)))
theorem p_istore_n (C : okX K X cc own nL d ret) {i : Fin 4} {z : Int} {ls' : List (Nat × PV)} (dg : decode cc pc = .ok (.istore_n i, 1)) (hi : (i : Nat) < nL) (h : sl ls i (vI z) = ls') (k : PW K X nL Q (pc + 1) ls' st μ) : PW K X nL Q pc ls (vI z :: st) μ := fun H locs la hP hS hl hμ hL hs =>
  lv_istore_n C.1 C.2.1 dg rfl hl hi (sl_map K ls i (vI z)) (fun la' hl' => k H locs la' hP hS (h ▸ hl') hμ (h ▸ okL_sl hL hs.hd) hs.tl)
theorem p_istore (C : okX K X cc own nL d ret) {i : Nat} {z : Int} {ls' : List (Nat × PV)} (dg : decode cc pc = .ok (.istore i, 2)) (hi : (i : Nat) < nL) (h : sl ls i (vI z) = ls') (k : PW K X nL Q (pc + 2) ls' st μ) : PW K X nL Q pc ls (vI z :: st) μ := fun H locs la hP hS hl hμ hL hs =>
  lv_istore C.1 C.2.1 dg hl hi (sl_map K ls i (vI z)) (fun la' hl' => k H locs la' hP hS (h ▸ hl') hμ (h ▸ okL_sl hL hs.hd) hs.tl)
theorem p_astore_n (C : okX K X cc own nL d ret) {i : Fin 4} {a : Int} {ls' : List (Nat × PV)} (dg : decode cc pc = .ok (.astore_n i, 1)) (hi : (i : Nat) < nL) (h : sl ls i (vR a) = ls') (k : PW K X nL Q (pc + 1) ls' st μ) : PW K X nL Q pc ls (vR a :: st) μ := fun H locs la hP hS hl hμ hL hs =>
  lv_astore_n C.1 C.2.1 dg rfl hl hi (sl_map K ls i (vR a)) (fun la' hl' => k H locs la' hP hS (h ▸ hl') hμ (h ▸ okL_sl hL hs.hd) hs.tl)
theorem p_astore (C : okX K X cc own nL d ret) {i : Nat} {a : Int} {ls' : List (Nat × PV)} (dg : decode cc pc = .ok (.astore i, 2)) (hi : (i : Nat) < nL) (h : sl ls i (vR a) = ls') (k : PW K X nL Q (pc + 2) ls' st μ) : PW K X nL Q pc ls (vR a :: st) μ := fun H locs la hP hS hl hμ hL hs =>
  lv_astore C.1 C.2.1 dg hl hi (sl_map K ls i (vR a)) (fun la' hl' => k H locs la' hP hS (h ▸ hl') hμ (h ▸ okL_sl hL hs.hd) hs.tl)
theorem p_lstore (C : okX K X cc own nL d ret) {i : Nat} {z : Int} {ls' : List (Nat × PV)} (dg : decode cc pc = .ok (.lstore i, 2)) (hi : (i : Nat) + 1 < nL) (h : slL ls i (vL z) = ls') (k : PW K X nL Q (pc + 2) ls' st μ) : PW K X nL Q pc ls (vL z :: st) μ := fun H locs la hP hS hl hμ hL hs =>
  lv_lstore C.1 C.2.1 dg hl hi (slL_map K ls i (vL z)) (fun la' hl' => k H locs la' hP hS (h ▸ hl') hμ (h ▸ okL_slL hL hs.hd) hs.tl)
theorem lk_place {ls : List (Nat × PV)} {i : Nat} {v : PV} (h : lk ls i = some v) (K : KX) : ∃ q : Nat, (ls.map (eL K))[q]? = some (i, eV K v) := by
  obtain ⟨q, hq⟩ := List.getElem?_of_mem (List.mem_map.mpr ⟨(i, v), lk_mem h, rfl⟩ : eL K (i, v) ∈ ls.map (eL K))
  exact ⟨q, hq⟩
theorem p_iinc (C : okX K X cc own nL d ret) {i : Nat} {n z : Int} {ls' : List (Nat × PV)} (dg : decode cc pc = .ok (.iinc i n, 3)) (hi : i < nL) (hk : lk ls i = some (vI z)) (hr : rng (z + n)) (h : sl ls i (vI (z + n)) = ls') (k : PW K X nL Q (pc + 3) ls' st μ) : PW K X nL Q pc ls st μ := fun H locs la hP hS hl hμ hL hs => by
  obtain ⟨q, hq⟩ := lk_place hk K
  exact lv_iinc C.1 C.2.1 dg hl hq (Int32.ofInt_add z n).symm hi (sl_map K ls i (vI (z + n))) (fun la' hl' => k H locs la' hP hS (h ▸ hl') hμ (h ▸ okL_sl hL (show okV (vI (z + n)) from hr)) hs)
theorem p_iadd (C : okX K X cc own nL d ret) {x y : Int} (dg : decode cc pc = .ok (.iadd, 1)) (hr : rng (x + y)) (k : PW K X nL Q (pc + 1) ls (vI (x + y) :: st) μ) : PW K X nL Q pc ls (vI y :: vI x :: st) μ := fun H locs la hP hS hl hμ hL hs => by
  refine lv_iadd C.1 C.2.1 dg ?_
  rw [← Int32.ofInt_add]
  exact k H locs la hP hS hl hμ hL (hs.tl.tl.cons (show okV (vI (x + y)) from hr))
theorem p_isub (C : okX K X cc own nL d ret) {x y : Int} (dg : decode cc pc = .ok (.isub, 1)) (hr : rng (x - y)) (k : PW K X nL Q (pc + 1) ls (vI (x - y) :: st) μ) : PW K X nL Q pc ls (vI y :: vI x :: st) μ := fun H locs la hP hS hl hμ hL hs => by
  refine lv_isub C.1 C.2.1 dg ?_
  rw [← Int32.ofInt_sub]
  exact k H locs la hP hS hl hμ hL (hs.tl.tl.cons (show okV (vI (x - y)) from hr))
theorem p_imul (C : okX K X cc own nL d ret) {x y : Int} (dg : decode cc pc = .ok (.imul, 1)) (hr : rng (x * y)) (k : PW K X nL Q (pc + 1) ls (vI (x * y) :: st) μ) : PW K X nL Q pc ls (vI y :: vI x :: st) μ := fun H locs la hP hS hl hμ hL hs => by
  refine lv_imul C.1 C.2.1 dg ?_
  rw [← Int32.ofInt_mul]
  exact k H locs la hP hS hl hμ hL (hs.tl.tl.cons (show okV (vI (x * y)) from hr))
/-- the same, where it may wrap -/
theorem p_iaddw (C : okX K X cc own nL d ret) {x y : Int} (dg : decode cc pc = .ok (.iadd, 1)) (k : PW K X nL Q (pc + 1) ls (vI (iwr (x + y)) :: st) μ) : PW K X nL Q pc ls (vI y :: vI x :: st) μ := fun H locs la hP hS hl hμ hL hs => by
  refine lv_iadd C.1 C.2.1 dg ?_
  rw [← Int32.ofInt_add, ← iwr_e]
  exact k H locs la hP hS hl hμ hL (hs.tl.tl.cons (show okV (vI _) from iwr_r _))
theorem p_isubw (C : okX K X cc own nL d ret) {x y : Int} (dg : decode cc pc = .ok (.isub, 1)) (k : PW K X nL Q (pc + 1) ls (vI (iwr (x - y)) :: st) μ) : PW K X nL Q pc ls (vI y :: vI x :: st) μ := fun H locs la hP hS hl hμ hL hs => by
  refine lv_isub C.1 C.2.1 dg ?_
  rw [← Int32.ofInt_sub, ← iwr_e]
  exact k H locs la hP hS hl hμ hL (hs.tl.tl.cons (show okV (vI _) from iwr_r _))
theorem p_imulw (C : okX K X cc own nL d ret) {x y : Int} (dg : decode cc pc = .ok (.imul, 1)) (k : PW K X nL Q (pc + 1) ls (vI (iwr (x * y)) :: st) μ) : PW K X nL Q pc ls (vI y :: vI x :: st) μ := fun H locs la hP hS hl hμ hL hs => by
  refine lv_imul C.1 C.2.1 dg ?_
  rw [← Int32.ofInt_mul, ← iwr_e]
  exact k H locs la hP hS hl hμ hL (hs.tl.tl.cons (show okV (vI _) from iwr_r _))
theorem p_iand (C : okX K X cc own nL d ret) {x y : Int} (dg : decode cc pc = .ok (.iand, 1)) (k : PW K X nL Q (pc + 1) ls (vI (iAnd x y) :: st) μ) : PW K X nL Q pc ls (vI y :: vI x :: st) μ := fun H locs la hP hS hl hμ hL hs => by
  refine lv_iand C.1 C.2.1 dg ?_
  have h := k H locs la hP hS hl hμ hL (hs.tl.tl.cons (show okV (vI _) from rng_i _))
  simp only [List.map_cons, eV, iAnd, Int32.ofInt_toInt] at h
  exact h
theorem p_ior (C : okX K X cc own nL d ret) {x y : Int} (dg : decode cc pc = .ok (.ior, 1)) (k : PW K X nL Q (pc + 1) ls (vI (iOr x y) :: st) μ) : PW K X nL Q pc ls (vI y :: vI x :: st) μ := fun H locs la hP hS hl hμ hL hs => by
  refine lv_ior C.1 C.2.1 dg ?_
  have h := k H locs la hP hS hl hμ hL (hs.tl.tl.cons (show okV (vI _) from rng_i _))
  simp only [List.map_cons, eV, iOr, Int32.ofInt_toInt] at h
  exact h
theorem p_ishl (C : okX K X cc own nL d ret) {x y : Int} (dg : decode cc pc = .ok (.ishl, 1)) (k : PW K X nL Q (pc + 1) ls (vI (iShl x y) :: st) μ) : PW K X nL Q pc ls (vI y :: vI x :: st) μ := fun H locs la hP hS hl hμ hL hs => by
  refine lv_ishl C.1 C.2.1 dg ?_
  have h := k H locs la hP hS hl hμ hL (hs.tl.tl.cons (show okV (vI _) from rng_i _))
  simp only [List.map_cons, eV, iShl, Int32.ofInt_toInt] at h
  exact h
theorem p_ishr (C : okX K X cc own nL d ret) {x y : Int} (dg : decode cc pc = .ok (.ishr, 1)) (k : PW K X nL Q (pc + 1) ls (vI (iShr x y) :: st) μ) : PW K X nL Q pc ls (vI y :: vI x :: st) μ := fun H locs la hP hS hl hμ hL hs => by
  refine lv_ishr C.1 C.2.1 dg ?_
  have h := k H locs la hP hS hl hμ hL (hs.tl.tl.cons (show okV (vI _) from rng_i _))
  simp only [List.map_cons, eV, iShr, Int32.ofInt_toInt] at h
  exact h
theorem p_iushr (C : okX K X cc own nL d ret) {x y : Int} (dg : decode cc pc = .ok (.iushr, 1)) (k : PW K X nL Q (pc + 1) ls (vI (iUshr x y) :: st) μ) : PW K X nL Q pc ls (vI y :: vI x :: st) μ := fun H locs la hP hS hl hμ hL hs => by
  refine lv_iushr C.1 C.2.1 dg rfl ?_
  have h := k H locs la hP hS hl hμ hL (hs.tl.tl.cons (show okV (vI _) from rng_i _))
  simp only [List.map_cons, eV, iUshr, Int32.ofInt_toInt] at h
  exact h
theorem p_i2b (C : okX K X cc own nL d ret) {x : Int} (dg : decode cc pc = .ok (.i2b, 1)) (k : PW K X nL Q (pc + 1) ls (vI (i2b x) :: st) μ) : PW K X nL Q pc ls (vI x :: st) μ := fun H locs la hP hS hl hμ hL hs => by
  refine lv_i2b C.1 C.2.1 dg rfl ?_
  have h := k H locs la hP hS hl hμ hL (hs.tl.cons (show okV (vI _) from rng_i _))
  simp only [List.map_cons, eV, i2b, Int32.ofInt_toInt] at h
  exact h
theorem p_i2s (C : okX K X cc own nL d ret) {x : Int} (dg : decode cc pc = .ok (.i2s, 1)) (k : PW K X nL Q (pc + 1) ls (vI (i2s x) :: st) μ) : PW K X nL Q pc ls (vI x :: st) μ := fun H locs la hP hS hl hμ hL hs => by
  refine lv_i2s C.1 C.2.1 dg rfl ?_
  have h := k H locs la hP hS hl hμ hL (hs.tl.cons (show okV (vI _) from rng_i _))
  simp only [List.map_cons, eV, i2s, Int32.ofInt_toInt] at h
  exact h
theorem zdiv {x y : Int} (hx : 0 ≤ x) (hy : 0 < y) (rx : rng x) (ry : rng y) : Int32.ofInt x / Int32.ofInt y = Int32.ofInt (x / y) := by
  have h1 : x.tdiv y = x / y := Int.tdiv_eq_ediv_of_nonneg hx
  have h2 : 0 ≤ x / y := Int.ediv_nonneg hx (Int.le_of_lt hy)
  have h3 : x / y ≤ x := Int.ediv_le_self _ hx
  rw [← Int32.toInt_inj, Int32.toInt_div, zi rx, zi ry, h1, zi ⟨by omega, by omega⟩]
  exact Int.bmod_eq_of_le (by omega) (by omega)
theorem p_idiv (C : okX K X cc own nL d ret) {x y : Int} (dg : decode cc pc = .ok (.idiv, 1)) (hx : 0 ≤ x) (hy : 0 < y) (k : PW K X nL Q (pc + 1) ls (vI (x / y) :: st) μ) : PW K X nL Q pc ls (vI y :: vI x :: st) μ := fun H locs la hP hS hl hμ hL hs => by
  have rx : rng x := hs.tl.hd
  have ry : rng y := hs.hd
  have h3 : x / y ≤ x := Int.ediv_le_self _ hx
  have h2 : 0 ≤ x / y := Int.ediv_nonneg hx (Int.le_of_lt hy)
  refine lv_idiv C.1 C.2.1 dg (fun h => ?_) ?_
  · rw [show (0 : Int32) = Int32.ofInt 0 from rfl, zi_eq ry (by decide)] at h; omega
  · rw [zdiv hx hy rx ry]
    exact k H locs la hP hS hl hμ hL (hs.tl.tl.cons (show okV (vI _) from ⟨by omega, by omega⟩))
theorem p_irem (C : okX K X cc own nL d ret) {x y : Int} (dg : decode cc pc = .ok (.irem, 1)) (hx : 0 ≤ x) (hy : 0 < y) (k : PW K X nL Q (pc + 1) ls (vI (x % y) :: st) μ) : PW K X nL Q pc ls (vI y :: vI x :: st) μ := fun H locs la hP hS hl hμ hL hs => by
  have rx : rng x := hs.tl.hd
  have ry : rng y := hs.hd
  have h3 : x % y < y := Int.emod_lt_of_pos _ hy
  have h2 : 0 ≤ x % y := Int.emod_nonneg _ (by omega)
  refine lv_irem C.1 C.2.1 dg (fun h => ?_) ?_
  · rw [show (0 : Int32) = Int32.ofInt 0 from rfl, zi_eq ry (by decide)] at h; omega
  · have e : Int32.ofInt x - Int32.ofInt x / Int32.ofInt y * Int32.ofInt y = Int32.ofInt (x % y) := by
      rw [zdiv hx hy rx ry, ← Int32.ofInt_mul, ← Int32.ofInt_sub]
      congr 1
      have := Int.emod_add_mul_ediv x y
      rw [Int.mul_comm] at this
      omega
    rw [e]
    exact k H locs la hP hS hl hμ hL (hs.tl.tl.cons (show okV (vI _) from ⟨by omega, by omega⟩))
theorem p_dup (C : okX K X cc own nL d ret) {v : PV} (dg : decode cc pc = .ok (.dup, 1)) (hv : isL v = false) (k : PW K X nL Q (pc + 1) ls (v :: v :: st) μ) : PW K X nL Q pc ls (v :: st) μ := fun H locs la hP hS hl hμ hL hs =>
  lv_dup C.1 C.2.1 dg (by rw [cat_eV, hv]; rfl) (k H locs la hP hS hl hμ hL (hs.cons hs.hd))
theorem p_dup2 (C : okX K X cc own nL d ret) {v w : PV} (dg : decode cc pc = .ok (.dup2, 1)) (hv : isL v = false) (hw : isL w = false) (k : PW K X nL Q (pc + 1) ls (v :: w :: v :: w :: st) μ) : PW K X nL Q pc ls (v :: w :: st) μ := fun H locs la hP hS hl hμ hL hs =>
  lv_dup2_11 C.1 C.2.1 dg (by rw [cat_eV, hv]; rfl) (by rw [cat_eV, hw]; rfl) (k H locs la hP hS hl hμ hL ((hs.cons hs.tl.hd).cons hs.hd))
theorem p_pop (C : okX K X cc own nL d ret) {v : PV} (dg : decode cc pc = .ok (.pop, 1)) (hv : isL v = false) (k : PW K X nL Q (pc + 1) ls st μ) : PW K X nL Q pc ls (v :: st) μ := fun H locs la hP hS hl hμ hL hs =>
  lv_pop C.1 C.2.1 dg (by rw [cat_eV, hv]; rfl) (k H locs la hP hS hl hμ hL hs.tl)
theorem p_goto (C : okX K X cc own nL d ret) {off : Int} {tgt : Nat} (dg : decode cc pc = .ok (.goto off, 3)) (ht : (pc : Int) + off = (tgt : Int)) (k : PW K X nL Q tgt ls st μ) : PW K X nL Q pc ls st μ := fun H locs la hP hS hl hμ hL hs =>
  lv_goto C.1 C.2.1 dg ht (k H locs la hP hS hl hμ hL hs)
theorem p_icmp_eq (C : okX K X cc own nL d ret) {x y off : Int} {tgt : Nat} (dg : decode cc pc = .ok (.if_icmp .eq off, 3)) (ht : (pc : Int) + off = (tgt : Int)) (k1 : x = y → PW K X nL Q tgt ls st μ) (k2 : ¬ x = y → PW K X nL Q (pc + 3) ls st μ) : PW K X nL Q pc ls (vI y :: vI x :: st) μ := fun H locs la hP hS hl hμ hL hs =>
  lv_icmp_eq C.1 C.2.1 dg ht (fun h => k1 ((zi_eq hs.tl.hd hs.hd).mp h) H locs la hP hS hl hμ hL hs.tl.tl) (fun h => k2 (fun e => h ((zi_eq hs.tl.hd hs.hd).mpr e)) H locs la hP hS hl hμ hL hs.tl.tl)
theorem p_if_eq (C : okX K X cc own nL d ret) {x off : Int} {tgt : Nat} (dg : decode cc pc = .ok (.ifCond .eq off, 3)) (ht : (pc : Int) + off = (tgt : Int)) (k1 : x = 0 → PW K X nL Q tgt ls st μ) (k2 : ¬ x = 0 → PW K X nL Q (pc + 3) ls st μ) : PW K X nL Q pc ls (vI x :: st) μ := fun H locs la hP hS hl hμ hL hs =>
  lv_if_eq C.1 C.2.1 dg ht (fun h => k1 ((zi_eq hs.hd (show rng 0 by decide)).mp h) H locs la hP hS hl hμ hL hs.tl) (fun h => k2 (fun e => h ((zi_eq hs.hd (show rng 0 by decide)).mpr e)) H locs la hP hS hl hμ hL hs.tl)
theorem p_icmp_ne (C : okX K X cc own nL d ret) {x y off : Int} {tgt : Nat} (dg : decode cc pc = .ok (.if_icmp .ne off, 3)) (ht : (pc : Int) + off = (tgt : Int)) (k1 : ¬ x = y → PW K X nL Q tgt ls st μ) (k2 : x = y → PW K X nL Q (pc + 3) ls st μ) : PW K X nL Q pc ls (vI y :: vI x :: st) μ := fun H locs la hP hS hl hμ hL hs =>
  lv_icmp_ne C.1 C.2.1 dg ht (fun h => k1 (fun e => h ((zi_eq hs.tl.hd hs.hd).mpr e)) H locs la hP hS hl hμ hL hs.tl.tl) (fun h => k2 ((zi_eq hs.tl.hd hs.hd).mp h) H locs la hP hS hl hμ hL hs.tl.tl)
theorem p_if_ne (C : okX K X cc own nL d ret) {x off : Int} {tgt : Nat} (dg : decode cc pc = .ok (.ifCond .ne off, 3)) (ht : (pc : Int) + off = (tgt : Int)) (k1 : ¬ x = 0 → PW K X nL Q tgt ls st μ) (k2 : x = 0 → PW K X nL Q (pc + 3) ls st μ) : PW K X nL Q pc ls (vI x :: st) μ := fun H locs la hP hS hl hμ hL hs =>
  lv_if_ne C.1 C.2.1 dg ht (fun h => k1 (fun e => h ((zi_eq hs.hd (show rng 0 by decide)).mpr e)) H locs la hP hS hl hμ hL hs.tl) (fun h => k2 ((zi_eq hs.hd (show rng 0 by decide)).mp h) H locs la hP hS hl hμ hL hs.tl)
theorem p_icmp_lt (C : okX K X cc own nL d ret) {x y off : Int} {tgt : Nat} (dg : decode cc pc = .ok (.if_icmp .lt off, 3)) (ht : (pc : Int) + off = (tgt : Int)) (k1 : x < y → PW K X nL Q tgt ls st μ) (k2 : ¬ x < y → PW K X nL Q (pc + 3) ls st μ) : PW K X nL Q pc ls (vI y :: vI x :: st) μ := fun H locs la hP hS hl hμ hL hs =>
  lv_icmp_lt C.1 C.2.1 dg ht (fun h => k1 ((zi_lt hs.tl.hd hs.hd).mp h) H locs la hP hS hl hμ hL hs.tl.tl) (fun h => k2 (fun e => h ((zi_lt hs.tl.hd hs.hd).mpr e)) H locs la hP hS hl hμ hL hs.tl.tl)
theorem p_if_lt (C : okX K X cc own nL d ret) {x off : Int} {tgt : Nat} (dg : decode cc pc = .ok (.ifCond .lt off, 3)) (ht : (pc : Int) + off = (tgt : Int)) (k1 : x < 0 → PW K X nL Q tgt ls st μ) (k2 : ¬ x < 0 → PW K X nL Q (pc + 3) ls st μ) : PW K X nL Q pc ls (vI x :: st) μ := fun H locs la hP hS hl hμ hL hs =>
  lv_if_lt C.1 C.2.1 dg ht (fun h => k1 ((zi_lt hs.hd (show rng 0 by decide)).mp h) H locs la hP hS hl hμ hL hs.tl) (fun h => k2 (fun e => h ((zi_lt hs.hd (show rng 0 by decide)).mpr e)) H locs la hP hS hl hμ hL hs.tl)
theorem p_icmp_ge (C : okX K X cc own nL d ret) {x y off : Int} {tgt : Nat} (dg : decode cc pc = .ok (.if_icmp .ge off, 3)) (ht : (pc : Int) + off = (tgt : Int)) (k1 : y ≤ x → PW K X nL Q tgt ls st μ) (k2 : ¬ y ≤ x → PW K X nL Q (pc + 3) ls st μ) : PW K X nL Q pc ls (vI y :: vI x :: st) μ := fun H locs la hP hS hl hμ hL hs =>
  lv_icmp_ge C.1 C.2.1 dg ht (fun h => k1 ((zi_le hs.hd hs.tl.hd).mp h) H locs la hP hS hl hμ hL hs.tl.tl) (fun h => k2 (fun e => h ((zi_le hs.hd hs.tl.hd).mpr e)) H locs la hP hS hl hμ hL hs.tl.tl)
theorem p_if_ge (C : okX K X cc own nL d ret) {x off : Int} {tgt : Nat} (dg : decode cc pc = .ok (.ifCond .ge off, 3)) (ht : (pc : Int) + off = (tgt : Int)) (k1 : 0 ≤ x → PW K X nL Q tgt ls st μ) (k2 : ¬ 0 ≤ x → PW K X nL Q (pc + 3) ls st μ) : PW K X nL Q pc ls (vI x :: st) μ := fun H locs la hP hS hl hμ hL hs =>
  lv_if_ge C.1 C.2.1 dg ht (fun h => k1 ((zi_le (show rng 0 by decide) hs.hd).mp h) H locs la hP hS hl hμ hL hs.tl) (fun h => k2 (fun e => h ((zi_le (show rng 0 by decide) hs.hd).mpr e)) H locs la hP hS hl hμ hL hs.tl)
theorem p_icmp_gt (C : okX K X cc own nL d ret) {x y off : Int} {tgt : Nat} (dg : decode cc pc = .ok (.if_icmp .gt off, 3)) (ht : (pc : Int) + off = (tgt : Int)) (k1 : y < x → PW K X nL Q tgt ls st μ) (k2 : ¬ y < x → PW K X nL Q (pc + 3) ls st μ) : PW K X nL Q pc ls (vI y :: vI x :: st) μ := fun H locs la hP hS hl hμ hL hs =>
  lv_icmp_gt C.1 C.2.1 dg ht (fun h => k1 ((zi_lt hs.hd hs.tl.hd).mp h) H locs la hP hS hl hμ hL hs.tl.tl) (fun h => k2 (fun e => h ((zi_lt hs.hd hs.tl.hd).mpr e)) H locs la hP hS hl hμ hL hs.tl.tl)
theorem p_if_gt (C : okX K X cc own nL d ret) {x off : Int} {tgt : Nat} (dg : decode cc pc = .ok (.ifCond .gt off, 3)) (ht : (pc : Int) + off = (tgt : Int)) (k1 : 0 < x → PW K X nL Q tgt ls st μ) (k2 : ¬ 0 < x → PW K X nL Q (pc + 3) ls st μ) : PW K X nL Q pc ls (vI x :: st) μ := fun H locs la hP hS hl hμ hL hs =>
  lv_if_gt C.1 C.2.1 dg ht (fun h => k1 ((zi_lt (show rng 0 by decide) hs.hd).mp h) H locs la hP hS hl hμ hL hs.tl) (fun h => k2 (fun e => h ((zi_lt (show rng 0 by decide) hs.hd).mpr e)) H locs la hP hS hl hμ hL hs.tl)
theorem p_icmp_le (C : okX K X cc own nL d ret) {x y off : Int} {tgt : Nat} (dg : decode cc pc = .ok (.if_icmp .le off, 3)) (ht : (pc : Int) + off = (tgt : Int)) (k1 : x ≤ y → PW K X nL Q tgt ls st μ) (k2 : ¬ x ≤ y → PW K X nL Q (pc + 3) ls st μ) : PW K X nL Q pc ls (vI y :: vI x :: st) μ := fun H locs la hP hS hl hμ hL hs =>
  lv_icmp_le C.1 C.2.1 dg ht (fun h => k1 ((zi_le hs.tl.hd hs.hd).mp h) H locs la hP hS hl hμ hL hs.tl.tl) (fun h => k2 (fun e => h ((zi_le hs.tl.hd hs.hd).mpr e)) H locs la hP hS hl hμ hL hs.tl.tl)
theorem p_if_le (C : okX K X cc own nL d ret) {x off : Int} {tgt : Nat} (dg : decode cc pc = .ok (.ifCond .le off, 3)) (ht : (pc : Int) + off = (tgt : Int)) (k1 : x ≤ 0 → PW K X nL Q tgt ls st μ) (k2 : ¬ x ≤ 0 → PW K X nL Q (pc + 3) ls st μ) : PW K X nL Q pc ls (vI x :: st) μ := fun H locs la hP hS hl hμ hL hs =>
  lv_if_le C.1 C.2.1 dg ht (fun h => k1 ((zi_le hs.hd (show rng 0 by decide)).mp h) H locs la hP hS hl hμ hL hs.tl) (fun h => k2 (fun e => h ((zi_le hs.hd (show rng 0 by decide)).mpr e)) H locs la hP hS hl hμ hL hs.tl)
theorem p_tout (C : okX K X cc own nL d ret) {dflt lo hi : Int} {offs : Array Int} {len : Nat} {x : Int} {tgt : Nat} (dg : decode cc pc = .ok (.tableswitch dflt lo hi offs, len)) (h : x < lo ∨ hi < x) (ht : (pc : Int) + dflt = (tgt : Int)) (k : PW K X nL Q tgt ls st μ) : PW K X nL Q pc ls (vI x :: st) μ := fun H locs la hP hS hl hμ hL hs =>
  lv_tableOut C.1 C.2.1 dg (by rw [zi hs.hd]; exact h) ht (k H locs la hP hS hl hμ hL hs.tl)
theorem p_tin (C : okX K X cc own nL d ret) {dflt lo hi : Int} {offs : Array Int} {len : Nat} {x off : Int} {tgt : Nat} (dg : decode cc pc = .ok (.tableswitch dflt lo hi offs, len)) (h1 : ¬ x < lo) (h2 : ¬ hi < x) (ho : offs[(x - lo).toNat]? = some off) (ht : (pc : Int) + off = (tgt : Int)) (k : PW K X nL Q tgt ls st μ) : PW K X nL Q pc ls (vI x :: st) μ := fun H locs la hP hS hl hμ hL hs =>
  lv_tableIn C.1 C.2.1 dg (by rw [zi hs.hd]; exact h1) (by rw [zi hs.hd]; exact h2) (by rw [zi hs.hd]; exact ho) ht (k H locs la hP hS hl hμ hL hs.tl)
theorem p_look (C : okX K X cc own nL d ret) {dflt : Int} {ps : Array (Int × Int)} {len : Nat} {x off : Int} {tgt : Nat} (dg : decode cc pc = .ok (.lookupswitch dflt ps, len)) (hp : (ps.toList.zip (ps.toList.drop 1)).all (fun (a, next) => a.1 < next.1) = true) (ho : Op.lookupswitch.offset ps.toList dflt x = off) (ht : (pc : Int) + off = (tgt : Int)) (k : PW K X nL Q tgt ls st μ) : PW K X nL Q pc ls (vI x :: st) μ := fun H locs la hP hS hl hμ hL hs =>
  lv_lookup C.1 C.2.1 dg hp (by rw [zi hs.hd]; exact ho) ht (k H locs la hP hS hl hμ hL hs.tl)
-- longs
theorem p_lconst (C : okX K X cc own nL d ret) {n : Fin 2} (dg : decode cc pc = .ok (.lconst n, 1)) (k : PW K X nL Q (pc + 1) ls (vL ((n : Nat) : Int) :: st) μ) : PW K X nL Q pc ls st μ := fun H locs la hP hS hl hμ hL hs =>
  lv_lconst C.1 C.2.1 dg rfl (k H locs la hP hS hl hμ hL (hs.cons (by show rnL _; have := n.2; constructor <;> omega)))
theorem p_i2l (C : okX K X cc own nL d ret) {x : Int} (dg : decode cc pc = .ok (.i2l, 1)) (k : PW K X nL Q (pc + 1) ls (vL x :: st) μ) : PW K X nL Q pc ls (vI x :: st) μ := fun H locs la hP hS hl hμ hL hs => by
  have rx : rng x := hs.hd
  have rl : rnL x := ⟨by omega, by omega⟩
  exact lv_i2l C.1 C.2.1 dg (by rw [← Int64.toInt_inj, Int32.toInt_toInt64, zi rx, zl rl]) (k H locs la hP hS hl hμ hL (hs.tl.cons rl))
theorem ldivz {x y : Int} (hx : 0 ≤ x) (hy : 0 < y) (rx : rnL x) (ry : rnL y) : Int64.ofInt x / Int64.ofInt y = Int64.ofInt (x / y) := by
  have h1 : x.tdiv y = x / y := Int.tdiv_eq_ediv_of_nonneg hx
  have h2 : 0 ≤ x / y := Int.ediv_nonneg hx (Int.le_of_lt hy)
  have h3 : x / y ≤ x := Int.ediv_le_self _ hx
  rw [← Int64.toInt_inj, Int64.toInt_div, zl rx, zl ry, h1, zl ⟨by omega, by omega⟩]
  exact Int.bmod_eq_of_le (by omega) (by omega)
theorem zl_eq {x y : Int} (hx : rnL x) (hy : rnL y) : Int64.ofInt x = Int64.ofInt y ↔ x = y := by rw [← Int64.toInt_inj, zl hx, zl hy]
theorem p_ldiv (C : okX K X cc own nL d ret) {x y : Int} (dg : decode cc pc = .ok (.ldiv, 1)) (hx : 0 ≤ x) (hy : 0 < y) (k : PW K X nL Q (pc + 1) ls (vL (x / y) :: st) μ) : PW K X nL Q pc ls (vL y :: vL x :: st) μ := fun H locs la hP hS hl hμ hL hs => by
  have rx : rnL x := hs.tl.hd
  have ry : rnL y := hs.hd
  have h3 : x / y ≤ x := Int.ediv_le_self _ hx
  have h2 : 0 ≤ x / y := Int.ediv_nonneg hx (Int.le_of_lt hy)
  refine lv_ldiv C.1 C.2.1 dg (fun h => ?_) ?_
  · rw [show (0 : Int64) = Int64.ofInt 0 from rfl, zl_eq ry (by decide)] at h; omega
  · rw [ldivz hx hy rx ry]
    exact k H locs la hP hS hl hμ hL (hs.tl.tl.cons (show okV (vL _) from ⟨by omega, by omega⟩))
theorem p_lrem (C : okX K X cc own nL d ret) {x y : Int} (dg : decode cc pc = .ok (.lrem, 1)) (hx : 0 ≤ x) (hy : 0 < y) (k : PW K X nL Q (pc + 1) ls (vL (x % y) :: st) μ) : PW K X nL Q pc ls (vL y :: vL x :: st) μ := fun H locs la hP hS hl hμ hL hs => by
  have rx : rnL x := hs.tl.hd
  have ry : rnL y := hs.hd
  have h3 : x % y < y := Int.emod_lt_of_pos _ hy
  have h2 : 0 ≤ x % y := Int.emod_nonneg _ (by omega)
  refine lv_lrem C.1 C.2.1 dg (fun h => ?_) ?_
  · rw [show (0 : Int64) = Int64.ofInt 0 from rfl, zl_eq ry (by decide)] at h; omega
  · have e : Int64.ofInt x - Int64.ofInt x / Int64.ofInt y * Int64.ofInt y = Int64.ofInt (x % y) := by
      rw [ldivz hx hy rx ry, ← Int64.ofInt_mul, ← Int64.ofInt_sub]
      congr 1
      have := Int.emod_add_mul_ediv x y
      rw [Int.mul_comm] at this
      omega
    rw [e]
    exact k H locs la hP hS hl hμ hL (hs.tl.tl.cons (show okV (vL _) from ⟨by omega, by omega⟩))
/-- the long compare: -1, 0, 1 -/
def lcp (x y : Int) : Int := (lg_cmp (Int64.ofInt x) (Int64.ofInt y)).toInt
theorem p_lcmp (C : okX K X cc own nL d ret) {x y : Int} (dg : decode cc pc = .ok (.lcmp, 1)) (k : PW K X nL Q (pc + 1) ls (vI (lcp x y) :: st) μ) : PW K X nL Q pc ls (vL y :: vL x :: st) μ := fun H locs la hP hS hl hμ hL hs => by
  refine W.lcmp C.1 C.2.1 dg ?_
  have h := k H locs la hP hS hl hμ hL (hs.tl.tl.cons (show okV (vI _) from rng_i _))
  simp only [List.map_cons, eV, lcp, Int32.ofInt_toInt] at h
  exact h
theorem p_ldc (C : okX K X cc own nL d ret) {idx : Nat} {v : Int32} (hw : Cond.constant own idx v ∈ GW) (dg : decode cc pc = .ok (.ldc idx, 2)) (k : PW K X nL Q (pc + 2) ls (vI v.toInt :: st) μ) : PW K X nL Q pc ls st μ := fun H locs la hP hS hl hμ hL hs => by
  refine lv_ldc C.1 C.2.1 C.2.2.2.1 (C.2.2.2.2.1 _ hw) dg ?_
  have h := k H locs la hP hS hl hμ hL (hs.cons (show okV (vI _) from rng_i _))
  simp only [List.map_cons, eV, Int32.ofInt_toInt] at h
  exact h
theorem p_ldcw (C : okX K X cc own nL d ret) {idx : Nat} {v : Int32} (hw : Cond.constant own idx v ∈ GW) (dg : decode cc pc = .ok (.ldc_w idx, 3)) (k : PW K X nL Q (pc + 3) ls (vI v.toInt :: st) μ) : PW K X nL Q pc ls st μ := fun H locs la hP hS hl hμ hL hs => by
  refine lv_ldcw C.1 C.2.1 C.2.2.2.1 (C.2.2.2.2.1 _ hw) dg ?_
  have h := k H locs la hP hS hl hμ hL (hs.cons (show okV (vI _) from rng_i _))
  simp only [List.map_cons, eV, Int32.ofInt_toInt] at h
  exact h
theorem p_ldc2 (C : okX K X cc own nL d ret) {idx : Nat} {v : Int64} (hw : Cond.constantLong own idx v ∈ GW) (dg : decode cc pc = .ok (.ldc2_w idx, 3)) (k : PW K X nL Q (pc + 3) ls (vL v.toInt :: st) μ) : PW K X nL Q pc ls st μ := fun H locs la hP hS hl hμ hL hs => by
  refine lv_ldc2 C.1 C.2.1 C.2.2.2.1 (C.2.2.2.2.1 _ hw) dg ?_
  have h := k H locs la hP hS hl hμ hL (hs.cons (show okV (vL _) from rng_l _))
  simp only [List.map_cons, eV, Int64.ofInt_toInt] at h
  exact h
end PMROWS
end
section
/-! ROWS of the pure machine: memory, ends, calls -/
theorem cls_in (ci : Nat) (q : vw_C) (h : classes[ci]? = some q) : ∀ w ∈ u_ws q.1 q.2.1 q.2.2, w ∈ GW := by
  match ci, h with
  | 0, h => cases h; decide +kernel
  | 1, h => cases h; decide +kernel
  | 2, h => cases h; decide +kernel
  | 3, h => cases h; decide +kernel
  | 4, h => cases h; decide +kernel
  | 5, h => cases h; decide +kernel
  | k + 6, h => simp [classes] at h
theorem cls_ty (ci : Nat) (q : vw_C) (h : classes[ci]? = some q) : ∃ ty0 : Nat → FieldType, (∀ k, k < q.2.2 → parseFieldDescriptor (q.2.1 k).2.2.1 = some (ty0 k)) ∧ ∀ a, a < q.2.2 → ∀ b, b < q.2.2 → a ≠ b → (q.2.1 a).2.1 ≠ (q.2.1 b).2.1 := by
  match ci, h with
  | 0, h => cases h; exact ⟨tyX0, tyX0_ok, nmX0⟩
  | 1, h => cases h; exact ⟨tyX1, tyX1_ok, nmX1⟩
  | 2, h => cases h; exact ⟨tyX2, tyX2_ok, nmX2⟩
  | 3, h => cases h; exact ⟨tyX3, tyX3_ok, nmX3⟩
  | 4, h => cases h; exact ⟨tyX4, tyX4_ok, nmX4⟩
  | 5, h => cases h; exact ⟨tyX5, tyX5_ok, nmX5⟩
  | k + 6, h => simp [classes] at h
/-- a field by its link: class ci, place k -/
def FL (own : String) (idx ci k : Nat) : Prop := ∃ q : vw_C, classes[ci]? = some q ∧ k < q.2.2 ∧ Cond.fieldLink own idx (q.2.1 k).1 (q.2.1 k).2.1 (q.2.1 k).2.2.1 ∈ GW
/-- one that may be written -/
def FP (own : String) (idx ci k : Nat) (ty : FieldType) : Prop := ∃ q : vw_C, classes[ci]? = some q ∧ k < q.2.2 ∧ Cond.fieldLink own idx (q.2.1 k).1 (q.2.1 k).2.1 (q.2.1 k).2.2.1 ∈ GW ∧ (q.2.1 k).2.2.2 = false ∧ parseFieldDescriptor (q.2.1 k).2.2.1 = some ty
section PMMEM
variable {K : KX} {X : CX} {nL d : Nat} {Q : State → Prop} {cc : ByteArray} {own : String} {ret : Option FieldType} {pc : Nat} {ls : List (Nat × PV)} {st : List PV} {μ : Int → ME}
theorem p_get (C : okX K X cc own nL d ret) {idx ci k : Nat} {a : Int} {fs : List PV} {v : PV} (F : FL own idx ci k) (dg : decode cc pc = .ok (.getfield idx, 3)) (ha : IR a) (hm : μ a = mO ci fs) (hv : fs[k]? = some v) (kk : PW K X nL Q (pc + 3) ls (v :: st) μ) : PW K X nL Q pc ls (vR a :: st) μ := fun H locs la hP hS hl hμ hL hs => by
  obtain ⟨q, hc, hk, hw⟩ := F
  have ho : okM (μ a) := hμ a ha.1 ha.2
  rw [hm] at ho
  refine va_get (C := q.1) (T := q.2.1) (N := q.2.2) (fs := fs.map (eV K)) (v := eV K v) C.1 C.2.1 C.2.2.2.2.1 (cls_in ci q hc) C.2.2.2.1 C.2.2.2.2.2.1.1 hP a.toNat ?_ hc k hk (C.2.2.2.2.1 _ hw) (fun _ h => h) ?_ dg ?_
  · rw [wld_at μ ha, hm]; rfl
  · rw [List.getElem?_map, hv]; rfl
  · exact kk H locs la hP hS hl hμ hL (hs.tl.cons (ho v (List.mem_of_getElem? hv)))
theorem p_putG (C : okX K X cc own nL d ret) {idx ci k : Nat} {a : Int} {fs : List PV} {v : PV} {ty : FieldType} (F : FP own idx ci k ty) (dg : decode cc pc = .ok (.putfield idx, 3)) (ha : IR a) (hm : μ a = mO ci fs) (hk : k < fs.length) (hn : narrow ty (eV K v) = eV K v) (hf : fits ty (eV K v) = true) (kk : PW K X nL Q (pc + 3) ls st (mup μ a (mO ci (fs.set k v)))) : PW K X nL Q pc ls (v :: vR a :: st) μ := fun H locs la hP hS hl hμ hL hs => by
  obtain ⟨q, hc, hk0, hw, hfin, hd⟩ := F
  obtain ⟨ty0, hty, hnm⟩ := cls_ty ci q hc
  have ho : okM (μ a) := hμ a ha.1 ha.2
  rw [hm] at ho
  refine va_put (C := q.1) (T := q.2.1) (N := q.2.2) (fs := fs.map (eV K)) (v := eV K v) (A := reg K) C.1 C.2.1 C.2.2.2.2.1 (cls_in ci q hc) ty0 hty hnm C.2.2.2.1 C.2.2.2.2.2.1.1 hP (wld_D K μ) hS a.toNat (a := kad K a) ?_ hc k hk0 (C.2.2.2.2.1 _ hw) (fun _ h => h) hfin hd hn hf (by rw [List.length_map]; exact hk) dg ?_
  · rw [wld_at μ ha, hm]; rfl
  · intro H1 locs1 h1 _ h3
    have e : (List.map (eV K) fs).set k (eV K v) = (fs.set k v).map (eV K) := List.map_set.symm
    rw [e, show (Sum.inr (ci, List.map (eV K) (fs.set k v)) : va_E) = eM K (mO ci (fs.set k v)) from rfl, wld_set ha] at h1
    refine kk H1 locs1 la h1 h3 hl (okU_mup hμ ?_) hL hs.tl.tl
    intro w hw
    rcases List.mem_or_eq_of_mem_set hw with h | h
    · exact ho w h
    · rw [h]; exact hs.hd
theorem p_put (C : okX K X cc own nL d ret) {idx ci k : Nat} {a z : Int} {fs : List PV} (F : FP own idx ci k .int) (dg : decode cc pc = .ok (.putfield idx, 3)) (ha : IR a) (hm : μ a = mO ci fs) (hk : k < fs.length) (kk : PW K X nL Q (pc + 3) ls st (mup μ a (mO ci (fs.set k (vI z))))) : PW K X nL Q pc ls (vI z :: vR a :: st) μ :=
  p_putG C F dg ha hm hk rfl rfl kk
theorem p_putZ (C : okX K X cc own nL d ret) {idx ci k : Nat} {a z : Int} {fs : List PV} (F : FP own idx ci k .boolean) (dg : decode cc pc = .ok (.putfield idx, 3)) (ha : IR a) (hm : μ a = mO ci fs) (hk : k < fs.length) (hz : z = 0 ∨ z = 1) (kk : PW K X nL Q (pc + 3) ls st (mup μ a (mO ci (fs.set k (vI z))))) : PW K X nL Q pc ls (vI z :: vR a :: st) μ := by
  refine p_putG C F dg ha hm hk ?_ ?_ kk
  · rcases hz with rfl | rfl <;> rfl
  · rcases hz with rfl | rfl <;> rfl
theorem p_iald (C : okX K X cc own nL d ret) {a i : Int} {n : Nat} {f : Int → Int} (dg : decode cc pc = .ok (.iaload, 1)) (ha : IR a) (hm : μ a = mA n f) (hi : 0 ≤ i ∧ i < (n : Int)) (kk : PW K X nL Q (pc + 1) ls (vI (f i) :: st) μ) : PW K X nL Q pc ls (vI i :: vR a :: st) μ := fun H locs la hP hS hl hμ hL hs => by
  have ho : okM (μ a) := hμ a ha.1 ha.2
  rw [hm] at ho
  have ri : rng i := hs.hd
  refine va_iald (n := n) (f := fun j => Int32.ofInt (f (j : Int))) (cA := K.2.2.1 0) C.1 C.2.1 C.2.2.2.2.2.1.1 hP a.toNat 0 ?_ rfl (zi_in hi.1 hi.2 ri) dg ?_
  · rw [wld_at μ ha, hm]; rfl
  · rw [zi_cl ri, show ((i.toNat : Nat) : Int) = i by omega]
    exact kk H locs la hP hS hl hμ hL (hs.tl.tl.cons (show okV (vI (f i)) from ho i hi.1 hi.2))
theorem p_iast (C : okX K X cc own nL d ret) {a i z : Int} {n : Nat} {f : Int → Int} (dg : decode cc pc = .ok (.iastore, 1)) (ha : IR a) (hm : μ a = mA n f) (hi : 0 ≤ i ∧ i < (n : Int)) (kk : PW K X nL Q (pc + 1) ls st (mup μ a (mA n (fup f i z)))) : PW K X nL Q pc ls (vI z :: vI i :: vR a :: st) μ := fun H locs la hP hS hl hμ hL hs => by
  have ho : okM (μ a) := hμ a ha.1 ha.2
  rw [hm] at ho
  have ri : rng i := hs.tl.hd
  have rz : rng z := hs.hd
  refine va_iast (n := n) (f := fun j => Int32.ofInt (f (j : Int))) (cA := K.2.2.1 0) (A := reg K) C.1 C.2.1 C.2.2.2.2.2.1.1 hP (wld_D K μ) hS a.toNat 0 (a := kad K a) ?_ rfl (zi_in hi.1 hi.2 ri) dg ?_
  · rw [wld_at μ ha, hm]; rfl
  · intro H1 locs1 h1 _ h3
    have e : upd (fun j : Nat => Int32.ofInt (f (j : Int))) (Int32.ofInt i).toNatClampNeg (Int32.ofInt z) = fun j : Nat => Int32.ofInt (fup f i z (j : Int)) := by
      funext j
      rw [zi_cl ri]
      unfold upd fup
      by_cases h : j = i.toNat
      · rw [if_pos h, if_pos (by omega)]
      · rw [if_neg h, if_neg (by omega)]
    rw [e, show (Sum.inl (K.2.2.1 0, n, Sum.inl fun j : Nat => Int32.ofInt (fup f i z (j : Int))) : va_E) = eM K (mA n (fup f i z)) from rfl, wld_set ha] at h1
    refine kk H1 locs1 la h1 h3 hl (okU_mup hμ ?_) hL hs.tl.tl.tl
    intro j j0 j1
    show rng (fup f i z j)
    unfold fup
    split
    · exact rz
    · exact ho j j0 j1
theorem p_aald (C : okX K X cc own nL d ret) {a i : Int} {t n : Nat} {f : Int → Option Int} {r : Int} (dg : decode cc pc = .ok (.aaload, 1)) (ha : IR a) (hm : μ a = mR t n f) (ht : t < 2) (hi : 0 ≤ i ∧ i < (n : Int)) (hr : f i = some r) (kk : PW K X nL Q (pc + 1) ls (vR r :: st) μ) : PW K X nL Q pc ls (vI i :: vR a :: st) μ := fun H locs la hP hS hl hμ hL hs => by
  have ri : rng i := hs.hd
  have e1 : ((i.toNat : Nat) : Int) = i := by omega
  have hk := kk H locs la hP hS hl hμ hL (hs.tl.tl.cons (show okV (vR r) from trivial))
  have hw : (wld K μ)[a.toNat]? = some (kad K a, .inl (K.2.2.1 (t + 1), n, .inr (.inr (.inr (.inr (fun j : Nat => (f (j : Int)).map (kad K))))))) := by rw [wld_at μ ha, hm]; rfl
  match t, ht with
  | 0, _ =>
    refine va_aldq (C := RX1) (n := n) (f := fun j : Nat => (f (j : Int)).map (kad K)) (cA := K.2.2.1 1) C.1 C.2.1 C.2.2.2.2.2.1.1 hP a.toNat 1 hw rfl (zi_in hi.1 hi.2 ri) dg ?_
    rw [zi_cl ri, e1, hr]
    exact hk
  | 1, _ =>
    refine va_aldq (C := RX0) (n := n) (f := fun j : Nat => (f (j : Int)).map (kad K)) (cA := K.2.2.1 2) C.1 C.2.1 C.2.2.2.2.2.1.1 hP a.toNat 2 hw rfl (zi_in hi.1 hi.2 ri) dg ?_
    rw [zi_cl ri, e1, hr]
    exact hk
-- ends
theorem Qct_of {Post : Option PV → (Int → ME) → Prop} {H : Heap} {locs : List Loc} {s t : State} {A : Array Value} {v : Option PV} (hP : va_P K.2.1 classes (wld K μ) H) (hS : va_S (reg K) s.heap H locs) (hK : KW K s) (hμ : okU K μ) (hv : okS v.toList) (h : Post v μ) (ht : t.heap = H) (hW : s.WarmedH t.vm) : Qct K Post A s (.returned (v.map (eV K))) t :=
  ⟨⟨v, μ, rfl, h, hμ, hv, by rw [ht]; exact hP, hK.warm hW⟩, hS.F ht⟩
theorem p_iret {Post : Option PV → (Int → ME) → Prop} (C : okX K X cc own nL d (some .int)) {z : Int} (dg : decode cc pc = .ok (.ireturn, 1)) (h : Post (some (vI z)) μ) : PW K X nL (QM K X Post) pc ls [vI z] μ := fun H locs la hP hS hl hμ hL hs =>
  W.iret (hlocks := C.2.2.2.2.2.2.1) C.1 C.2.1 C.2.2.2.2.2.2.2.1 (fun t ht hW => Qct_of (v := some (vI z)) hP hS C.2.2.2.2.2.1 hμ hs h ht hW) hS.2.2 dg
theorem p_zret {Post : Option PV → (Int → ME) → Prop} (C : okX K X cc own nL d (some .boolean)) {z : Int} (dg : decode cc pc = .ok (.ireturn, 1)) (hz : z = 0 ∨ z = 1) (h : Post (some (vI z)) μ) : PW K X nL (QM K X Post) pc ls [vI z] μ := fun H locs la hP hS hl hμ hL hs =>
  W.zret (hlocks := C.2.2.2.2.2.2.1) C.1 C.2.1 C.2.2.2.2.2.2.2.1 (by rcases hz with rfl | rfl <;> rfl) (fun t ht hW => Qct_of (v := some (vI z)) hP hS C.2.2.2.2.2.1 hμ hs h ht hW) hS.2.2 dg
theorem p_lret {Post : Option PV → (Int → ME) → Prop} (C : okX K X cc own nL d (some .long)) {z : Int} (dg : decode cc pc = .ok (.lreturn, 1)) (h : Post (some (vL z)) μ) : PW K X nL (QM K X Post) pc ls [vL z] μ := fun H locs la hP hS hl hμ hL hs =>
  W.lret (hlocks := C.2.2.2.2.2.2.1) C.1 C.2.1 C.2.2.2.2.2.2.2.1 (fun t ht hW => Qct_of (v := some (vL z)) hP hS C.2.2.2.2.2.1 hμ hs h ht hW) hS.2.2 dg
theorem p_vret {Post : Option PV → (Int → ME) → Prop} (C : okX K X cc own nL d none) (dg : decode cc pc = .ok (.return_, 1)) (h : Post none μ) : PW K X nL (QM K X Post) pc ls [] μ := fun H locs la hP hS hl hμ hL hs =>
  W.vret (hlocks := C.2.2.2.2.2.2.1) C.1 C.2.1 C.2.2.2.2.2.2.2.1 (fun t ht hW => Qct_of (v := none) hP hS C.2.2.2.2.2.1 hμ hs h ht hW) hS.2.2 dg
-- begin
theorem Ct.of {y : MethodName} {bytes : ByteArray} {maxL : Nat} {av : List PV} {Post : Option PV → (Int → ME) → Prop} (hy : plainName y.cls = true) (hlen : (lg_sl (av.map (eV K))).length ≤ maxL) (body : ∀ X : CX, okX K X bytes y.cls maxL d ret → PW K X maxL (QM K X Post) 0 (argl 0 av) [] μ) : Ct K d y bytes maxL ret av μ Post := by
  intro hμ hav
  refine Met.ofW (cc := bytes) (maxL := maxL) (ret := ret) hy rfl ?_
  intro p e s m args below meth c s₁ B hml hv
  obtain ⟨rfl, hP, hK⟩ := hv
  have hts := atoms_spec (ws := Cond.code y bytes maxL ret :: GW) B.pre
  have hl := lv_entry (av.map (eV K)) (n := maxL) hlen
  rw [argl_map] at hl
  have hb := body (p, e, rmd d, s, m, (av.map (eV K)).toArray, below, meth, c, 0, 0) ⟨B.exec, B.bytes, hml, findClass_of_methodNamed B.named, fun w hw => hts w (List.mem_cons_of_mem _ hw), hK, B.notSynchronized, B.returns, ⟨Nat.le_refl _, Nat.le_refl _⟩, Nat.le_refl _, Nat.le_refl _⟩
  rw [lg_entry_eq]
  exact hb s.heap [] _ hP va_S.rf hl hμ (okL_argl hav) okS.nil
-- calls
/-- behind a run of the callee -/
theorem p_after {Post : Option PV → (Int → ME) → Prop} {A : Array Value} {rest : List PV} {H : Heap} {locs : List Loc} {la : Array Slot} {st0 : List Value} (C : okX K X cc own nL d ret)
    (hr : va_Run X.1 K.1 X.2.1 X.2.2.1 X.2.2.2.1 X.2.2.2.2.1 X.2.2.2.2.2.1 X.2.2.2.2.2.2.1 X.2.2.2.2.2.2.2.1 X.2.2.2.2.2.2.2.2.1 H locs X.2.2.2.2.2.2.2.2.2.1 X.2.2.2.2.2.2.2.2.2.2 0 0 (F0 X.2.2.2.2.1 pc la st0) (rest.map (eV K)) (Qct K Post A) (reg K))
    (hS : va_S (reg K) X.2.2.2.1.heap H locs) (hl : lv_has la nL (ls.map (eL K))) (hL : okL ls) (hs : okS rest)
    (kk : ∀ (r : Option PV) (μ' : Int → ME), Post r μ' → PW K X nL Q (pc + 3) ls (r.toList ++ rest) μ') :
    W X.1 K.1 X.2.1 X.2.2.1 X.2.2.2.1 X.2.2.2.2.1 X.2.2.2.2.2.1 X.2.2.2.2.2.2.1 X.2.2.2.2.2.2.2.1 X.2.2.2.2.2.2.2.2.1 H locs X.2.2.2.2.2.2.2.2.2.1 X.2.2.2.2.2.2.2.2.2.2 Q (F0 X.2.2.2.2.1 pc la st0) := by
  intro T hT X0
  obtain ⟨v, st₀, t, T', L, h0, X', hLo, e1, e2, ⟨⟨r, μ', hv, hp, hμ', hr', hP', hK'⟩, hz, hk⟩, stp⟩ := hr T hT X0
  have hv : v = r.map (eV K) := by cases hv; rfl
  subst hv
  rw [h0] at hz hk
  have hS' : va_S (reg K) X.2.2.2.1.heap T'.heap (locs ++ L) := ⟨Nat.le_trans hS.1 (by rw [e1]; exact hz), fun q h1 h2 => by rw [e1, hk q (Nat.lt_of_lt_of_le h1 hS.1) h2]; exact hS.2.1 q h1 h2, fun q hq => by
      rcases List.mem_append.mp hq with h | h
      · exact hS.2.2 q h
      · exact hLo q h⟩
  obtain ⟨t2, a1, b1⟩ := kk r μ' hp T'.heap (locs ++ L) la (by rw [e1]; exact hP') hS' hl hμ' hL (hr'.app hs) T' rfl X'
  refine ⟨t2, stp t2 ?_, b1⟩
  have e : List.map (eV K) (r.toList ++ rest) = (r.map (eV K)).toList ++ rest.map (eV K) := by
    rw [List.map_append]; cases r <;> rfl
  rw [e] at a1
  exact a1
theorem Pct_blind (av : List PV) : FrameBlind (Pct K av μ) := fun a U g mk h => ⟨h.1, h.2.1, va_K.moved (u := U) (U := U.calling g mk a) (Vm.Alike.refl U.vm) h.2.2.1, h.2.2.2.same (U := U.calling g mk a) rfl⟩
theorem cat_sum (K : KX) (rest : List PV) : ((rest.map (eV K)).map fun v => v.category).sum = (rest.map fun v => if isL v = true then 2 else 1).sum := by
  rw [List.map_map]
  congr 1
  apply List.map_congr_left
  intro v _
  exact cat_eV K v
def LnkV (own : String) (idx : Nat) (y : MethodName) (bytes : ByteArray) (maxL : Nat) (ret : Option FieldType) (n : Nat) : Prop :=
  (Cond.methodLink own idx y ∈ GW ∧ Cond.instanceMethod y ∈ GW ∧ Cond.selects y.cls y y ∈ GW ∧ Cond.initialized y.cls ∈ GW ∧ Cond.code y bytes maxL ret ∈ GW) ∧ maxL ≤ 12 ∧ (y.cls ≠ "java/lang/invoke/MethodHandle" ∧ y.cls ≠ "java/lang/invoke/VarHandle" ∧ (parseMethodDescriptor y.desc).map (fun d => d.parameters.length) = some n)
def LnkS (own : String) (idx : Nat) (y : MethodName) (bytes : ByteArray) (maxL : Nat) (ret : Option FieldType) (n : Nat) : Prop :=
  (Cond.methodLink own idx y ∈ GW ∧ Cond.static y ∈ GW ∧ Cond.initialized y.cls ∈ GW ∧ Cond.code y bytes maxL ret ∈ GW) ∧ maxL ≤ 12 ∧ (y.cls ≠ "java/lang/invoke/MethodHandle" ∧ y.cls ≠ "java/lang/invoke/VarHandle" ∧ (parseMethodDescriptor y.desc).map (fun d => d.parameters.length) = some n)
def LnkN (own : String) (idx : Nat) (y : MethodName) (host : String) (bytes : ByteArray) (maxL : Nat) (ret : Option FieldType) (n : Nat) : Prop :=
  ((own, idx, y, host) ∈ nestW ∧ Cond.static y ∈ GW ∧ Cond.initialized y.cls ∈ GW ∧ Cond.code y bytes maxL ret ∈ GW) ∧ maxL ≤ 12 ∧ (y.cls ≠ "java/lang/invoke/MethodHandle" ∧ y.cls ≠ "java/lang/invoke/VarHandle" ∧ (parseMethodDescriptor y.desc).map (fun d => d.parameters.length) = some n)
theorem p_callV (C : okX K X cc own nL (d + 1) ret) {idx n maxL : Nat} {y : MethodName} {bytes : ByteArray} {retc : Option FieldType} {Post : Option PV → (Int → ME) → Prop} {av rest : List PV} {a : Int} {ci : Nat} {fs : List PV} {q : vw_C} (L : LnkV own idx y bytes maxL retc n) (dg : decode cc pc = .ok (.invokevirtual idx, 3)) (hM : Ct K d y bytes maxL retc (vR a :: av) μ Post) (ha : IR a) (hm : μ a = mO ci fs) (hc : classes[ci]? = some q) (hq : q.1 = y.cls) (hn : av.length = n) (hst : st = av.reverse ++ vR a :: rest) (hsz : (rest.map fun v => if isL v = true then 2 else 1).sum ≤ 8)
    (kk : ∀ (r : Option PV) (μ' : Int → ME), Post r μ' → PW K X nL Q (pc + 3) ls (r.toList ++ rest) μ') : PW K X nL Q pc ls st μ := fun H locs la hP hS hl hμ hL hs => by
  subst hst
  obtain ⟨hx, hb, hml, hown, hts, hK, -, -, ⟨hf1, hf2⟩, hcl, hsl⟩ := id C
  obtain ⟨⟨w1, w2, w3, w4, w5⟩, hmx, hd⟩ := L
  have hsr : okS rest := fun v hv => hs v (List.mem_append_right _ (List.mem_cons_of_mem _ hv))
  have hsa : okS (vR a :: av) := (show okS av from fun v hv => hs v (List.mem_append_left _ (List.mem_reverse.mpr hv))).cons trivial
  have hg : GoodIn GW (wsV own idx y.cls y (Cond.code y bytes maxL retc :: GW)) := fun w hw => by
    rcases List.mem_append.mp hw with h | h
    · simp only [List.mem_cons, List.not_mem_nil, or_false] at h
      rcases h with rfl | rfl | rfl | rfl
      · exact ⟨w1, good_of_word (GW_good _ w1)⟩
      · exact ⟨w2, good_of_word (GW_good _ w2)⟩
      · exact ⟨w3, good_of_word (GW_good _ w3)⟩
      · exact ⟨w4, good_of_word (GW_good _ w4)⟩
    · exact GW_in w5 w h
  obtain ⟨cell, c1, c2, c3⟩ := va_recv (a := kad K a) (q0 := a.toNat) (ci := ci) (fs := fs.map (eV K)) hK.1 hP hc (by rw [wld_at μ ha, hm]; rfl)
  have hrun := va_runV (cells := X.2.2.2.2.2.2.2.2.2.1) (slots := X.2.2.2.2.2.2.2.2.2.2) (below := X.2.2.2.2.2.2.1) (meth := X.2.2.2.2.2.2.2.1) (e := X.2.1) (R := X.2.2.1) (locs := locs) (H := H) (n := n) (mc := 0) (ms := 0) (g := F0 X.2.2.2.2.1 pc la ((av.reverse ++ vR a :: rest).map (eV K))) (b := kad K a) (As := av.map (eV K)) (rest := rest.map (eV K)) ⟨hx, hb, hml, hown, hts⟩ (hM hμ hsa) (cwV n hts hg rfl rfl rfl ⟨rfl, hd⟩ ⟨hf1, by show 8 + (maxL + 11) + 31 * d ≤ _; omega⟩)
    ⟨Pct_blind _, ⟨cell, c1, c2, by rw [← hq]; exact c3⟩, fun U hU hW => ⟨rfl, by rw [hU]; exact hP, hK.warm hW⟩⟩ rfl (by rw [List.length_map]; exact hn) hl.1 (by simp only [List.map_append, List.map_reverse, List.map_cons]; rfl) (lv_room (by rw [cat_sum]; exact hsz)) dg ⟨hcl, hsl⟩
  exact p_after C hrun hS hl hL hsr kk
theorem p_callS (C : okX K X cc own nL (d + 1) ret) {idx n maxL : Nat} {y : MethodName} {bytes : ByteArray} {retc : Option FieldType} {Post : Option PV → (Int → ME) → Prop} {av rest : List PV} (L : LnkS own idx y bytes maxL retc n) (dg : decode cc pc = .ok (.invokestatic idx, 3)) (hM : Ct K d y bytes maxL retc av μ Post) (hn : av.length = n) (hst : st = av.reverse ++ rest) (hsz : (rest.map fun v => if isL v = true then 2 else 1).sum ≤ 8)
    (kk : ∀ (r : Option PV) (μ' : Int → ME), Post r μ' → PW K X nL Q (pc + 3) ls (r.toList ++ rest) μ') : PW K X nL Q pc ls st μ := fun H locs la hP hS hl hμ hL hs => by
  subst hst
  obtain ⟨hx, hb, hml, hown, hts, hK, -, -, ⟨hf1, hf2⟩, hcl, hsl⟩ := id C
  obtain ⟨⟨w1, w2, w4, w5⟩, hmx, hd⟩ := L
  have hsr : okS rest := fun v hv => hs v (List.mem_append_right _ hv)
  have hsa : okS av := fun v hv => hs v (List.mem_append_left _ (List.mem_reverse.mpr hv))
  have hg : GoodIn GW (va_wsS own idx y (Cond.code y bytes maxL retc :: GW)) := fun w hw => by
    rcases List.mem_append.mp hw with h | h
    · simp only [List.mem_cons, List.not_mem_nil, or_false] at h
      rcases h with rfl | rfl | rfl
      · exact ⟨w1, good_of_word (GW_good _ w1)⟩
      · exact ⟨w2, good_of_word (GW_good _ w2)⟩
      · exact ⟨w4, good_of_word (GW_good _ w4)⟩
    · exact GW_in w5 w h
  have hrun := va_runS (cells := X.2.2.2.2.2.2.2.2.2.1) (slots := X.2.2.2.2.2.2.2.2.2.2) (below := X.2.2.2.2.2.2.1) (meth := X.2.2.2.2.2.2.2.1) (e := X.2.1) (R := X.2.2.1) (locs := locs) (H := H) (n := n) (mc := 0) (ms := 0) (g := F0 X.2.2.2.2.1 pc la ((av.reverse ++ rest).map (eV K))) (As := av.map (eV K)) (rest := rest.map (eV K)) ⟨hx, hb, hml, hown, hts⟩ (hM hμ hsa) (va_cwS n hts hg rfl rfl rfl hd ⟨hf1, by show 8 + (maxL + 11) + 31 * d ≤ _; omega⟩)
    ⟨Pct_blind _, fun U hU hW => ⟨rfl, by rw [hU]; exact hP, hK.warm hW⟩⟩ rfl (by rw [List.length_map]; exact hn) hl.1 (by simp only [List.map_append, List.map_reverse]) (lv_room (by rw [cat_sum]; exact hsz)) dg ⟨hcl, hsl⟩
  exact p_after C hrun hS hl hL hsr kk
theorem p_callN (C : okX K X cc own nL (d + 1) ret) {idx n maxL : Nat} {y : MethodName} {host : String} {bytes : ByteArray} {retc : Option FieldType} {Post : Option PV → (Int → ME) → Prop} {av rest : List PV} (L : LnkN own idx y host bytes maxL retc n) (dg : decode cc pc = .ok (.invokestatic idx, 3)) (hM : Ct K d y bytes maxL retc av μ Post) (hn : av.length = n) (hst : st = av.reverse ++ rest) (hsz : (rest.map fun v => if isL v = true then 2 else 1).sum ≤ 8)
    (kk : ∀ (r : Option PV) (μ' : Int → ME), Post r μ' → PW K X nL Q (pc + 3) ls (r.toList ++ rest) μ') : PW K X nL Q pc ls st μ := fun H locs la hP hS hl hμ hL hs => by
  subst hst
  obtain ⟨hx, hb, hml, hown, hts, hK, -, -, ⟨hf1, hf2⟩, hcl, hsl⟩ := id C
  obtain ⟨⟨w1, w2, w4, w5⟩, hmx, hd⟩ := L
  have hsr : okS rest := fun v hv => hs v (List.mem_append_right _ hv)
  have hsa : okS av := fun v hv => hs v (List.mem_append_left _ (List.mem_reverse.mpr hv))
  have hrun := va_runSN (cells := X.2.2.2.2.2.2.2.2.2.1) (slots := X.2.2.2.2.2.2.2.2.2.2) (below := X.2.2.2.2.2.2.1) (meth := X.2.2.2.2.2.2.2.1) (e := X.2.1) (R := X.2.2.1) (locs := locs) (H := H) (n := n) (mc := 0) (ms := 0) (g := F0 X.2.2.2.2.1 pc la ((av.reverse ++ rest).map (eV K))) (As := av.map (eV K)) (rest := rest.map (eV K)) ⟨hx, hb, hml, hown, hts⟩ (hM hμ hsa) ⟨va_cnB (host := host) n hts (GW_in w5) rfl rfl rfl (hK.2 _ w1) (hts _ w4) hd ⟨hf1, by show 8 + (maxL + 11) + 31 * d ≤ _; omega⟩, hts _ w2, trivial⟩
    ⟨Pct_blind _, fun U hU hW => ⟨rfl, by rw [hU]; exact hP, hK.warm hW⟩⟩ rfl (by rw [List.length_map]; exact hn) hl.1 (by simp only [List.map_append, List.map_reverse]) (lv_room (by rw [cat_sum]; exact hsz)) dg ⟨hcl, hsl⟩
  exact p_after C hrun hS hl hL hsr kk
end PMMEM
end
section
def yM_min : MethodName := ⟨"java/lang/Math", "min", "(II)I"⟩
def yM_bitCount : MethodName := ⟨"java/lang/Integer", "bitCount", "(I)I"⟩
theorem fl_X3_9 : FL RX3 9 3 0 := ⟨(RX3, TX3, 3), rfl, by decide, GW_of 82 (by decide +kernel) (by decide +kernel)⟩
theorem fp_X3_9 : FP RX3 9 3 0 .int := ⟨(RX3, TX3, 3), rfl, by decide, GW_of 82 (by decide +kernel) (by decide +kernel), rfl, by decide +kernel⟩
theorem fl_X4_320 : FL RX4 320 3 0 := ⟨(RX3, TX3, 3), rfl, by decide, GW_of 83 (by decide +kernel) (by decide +kernel)⟩
theorem fp_X4_320 : FP RX4 320 3 0 .int := ⟨(RX3, TX3, 3), rfl, by decide, GW_of 83 (by decide +kernel) (by decide +kernel), rfl, by decide +kernel⟩
theorem fl_X3_15 : FL RX3 15 3 1 := ⟨(RX3, TX3, 3), rfl, by decide, GW_of 84 (by decide +kernel) (by decide +kernel)⟩
theorem fp_X3_15 : FP RX3 15 3 1 .int := ⟨(RX3, TX3, 3), rfl, by decide, GW_of 84 (by decide +kernel) (by decide +kernel), rfl, by decide +kernel⟩
theorem fl_X4_323 : FL RX4 323 3 1 := ⟨(RX3, TX3, 3), rfl, by decide, GW_of 85 (by decide +kernel) (by decide +kernel)⟩
theorem fp_X4_323 : FP RX4 323 3 1 .int := ⟨(RX3, TX3, 3), rfl, by decide, GW_of 85 (by decide +kernel) (by decide +kernel), rfl, by decide +kernel⟩
theorem fl_X3_18 : FL RX3 18 3 2 := ⟨(RX3, TX3, 3), rfl, by decide, GW_of 86 (by decide +kernel) (by decide +kernel)⟩
theorem fp_X3_18 : FP RX3 18 3 2 .int := ⟨(RX3, TX3, 3), rfl, by decide, GW_of 86 (by decide +kernel) (by decide +kernel), rfl, by decide +kernel⟩
theorem fl_X4_326 : FL RX4 326 3 2 := ⟨(RX3, TX3, 3), rfl, by decide, GW_of 87 (by decide +kernel) (by decide +kernel)⟩
theorem fp_X4_326 : FP RX4 326 3 2 .int := ⟨(RX3, TX3, 3), rfl, by decide, GW_of 87 (by decide +kernel) (by decide +kernel), rfl, by decide +kernel⟩
theorem fl_X2_24 : FL RX2 24 2 0 := ⟨(RX2, TX2, 5), rfl, by decide, GW_of 102 (by decide +kernel) (by decide +kernel)⟩
theorem fp_X2_24 : FP RX2 24 2 0 .int := ⟨(RX2, TX2, 5), rfl, by decide, GW_of 102 (by decide +kernel) (by decide +kernel), rfl, by decide +kernel⟩
theorem fl_X4_172 : FL RX4 172 2 0 := ⟨(RX2, TX2, 5), rfl, by decide, GW_of 103 (by decide +kernel) (by decide +kernel)⟩
theorem fp_X4_172 : FP RX4 172 2 0 .int := ⟨(RX2, TX2, 5), rfl, by decide, GW_of 103 (by decide +kernel) (by decide +kernel), rfl, by decide +kernel⟩
theorem fl_X2_28 : FL RX2 28 2 1 := ⟨(RX2, TX2, 5), rfl, by decide, GW_of 104 (by decide +kernel) (by decide +kernel)⟩
theorem fp_X2_28 : FP RX2 28 2 1 .int := ⟨(RX2, TX2, 5), rfl, by decide, GW_of 104 (by decide +kernel) (by decide +kernel), rfl, by decide +kernel⟩
theorem fl_X4_175 : FL RX4 175 2 1 := ⟨(RX2, TX2, 5), rfl, by decide, GW_of 105 (by decide +kernel) (by decide +kernel)⟩
theorem fp_X4_175 : FP RX4 175 2 1 .int := ⟨(RX2, TX2, 5), rfl, by decide, GW_of 105 (by decide +kernel) (by decide +kernel), rfl, by decide +kernel⟩
theorem fl_X2_9 : FL RX2 9 2 2 := ⟨(RX2, TX2, 5), rfl, by decide, GW_of 106 (by decide +kernel) (by decide +kernel)⟩
theorem fl_X4_178 : FL RX4 178 2 2 := ⟨(RX2, TX2, 5), rfl, by decide, GW_of 107 (by decide +kernel) (by decide +kernel)⟩
theorem fl_X2_15 : FL RX2 15 2 3 := ⟨(RX2, TX2, 5), rfl, by decide, GW_of 108 (by decide +kernel) (by decide +kernel)⟩
theorem fl_X2_18 : FL RX2 18 2 4 := ⟨(RX2, TX2, 5), rfl, by decide, GW_of 109 (by decide +kernel) (by decide +kernel)⟩
theorem fl_X1_15 : FL RX1 15 1 0 := ⟨(RX1, TX1, 5), rfl, by decide, GW_of 128 (by decide +kernel) (by decide +kernel)⟩
theorem fp_X1_15 : FP RX1 15 1 0 .int := ⟨(RX1, TX1, 5), rfl, by decide, GW_of 128 (by decide +kernel) (by decide +kernel), rfl, by decide +kernel⟩
theorem fl_X4_92 : FL RX4 92 1 0 := ⟨(RX1, TX1, 5), rfl, by decide, GW_of 129 (by decide +kernel) (by decide +kernel)⟩
theorem fp_X4_92 : FP RX4 92 1 0 .int := ⟨(RX1, TX1, 5), rfl, by decide, GW_of 129 (by decide +kernel) (by decide +kernel), rfl, by decide +kernel⟩
theorem fl_X1_26 : FL RX1 26 1 1 := ⟨(RX1, TX1, 5), rfl, by decide, GW_of 130 (by decide +kernel) (by decide +kernel)⟩
theorem fp_X1_26 : FP RX1 26 1 1 .int := ⟨(RX1, TX1, 5), rfl, by decide, GW_of 130 (by decide +kernel) (by decide +kernel), rfl, by decide +kernel⟩
theorem fl_X4_95 : FL RX4 95 1 1 := ⟨(RX1, TX1, 5), rfl, by decide, GW_of 131 (by decide +kernel) (by decide +kernel)⟩
theorem fp_X4_95 : FP RX4 95 1 1 .int := ⟨(RX1, TX1, 5), rfl, by decide, GW_of 131 (by decide +kernel) (by decide +kernel), rfl, by decide +kernel⟩
theorem fl_X1_19 : FL RX1 19 1 2 := ⟨(RX1, TX1, 5), rfl, by decide, GW_of 132 (by decide +kernel) (by decide +kernel)⟩
theorem fp_X1_19 : FP RX1 19 1 2 .int := ⟨(RX1, TX1, 5), rfl, by decide, GW_of 132 (by decide +kernel) (by decide +kernel), rfl, by decide +kernel⟩
theorem fl_X4_98 : FL RX4 98 1 2 := ⟨(RX1, TX1, 5), rfl, by decide, GW_of 133 (by decide +kernel) (by decide +kernel)⟩
theorem fp_X4_98 : FP RX4 98 1 2 .int := ⟨(RX1, TX1, 5), rfl, by decide, GW_of 133 (by decide +kernel) (by decide +kernel), rfl, by decide +kernel⟩
theorem fl_X4_105 : FL RX4 105 1 3 := ⟨(RX1, TX1, 5), rfl, by decide, GW_of 134 (by decide +kernel) (by decide +kernel)⟩
theorem fp_X4_105 : FP RX4 105 1 3 .int := ⟨(RX1, TX1, 5), rfl, by decide, GW_of 134 (by decide +kernel) (by decide +kernel), rfl, by decide +kernel⟩
theorem fl_X1_45 : FL RX1 45 1 3 := ⟨(RX1, TX1, 5), rfl, by decide, GW_of 135 (by decide +kernel) (by decide +kernel)⟩
theorem fp_X1_45 : FP RX1 45 1 3 .int := ⟨(RX1, TX1, 5), rfl, by decide, GW_of 135 (by decide +kernel) (by decide +kernel), rfl, by decide +kernel⟩
theorem fl_X1_9 : FL RX1 9 1 4 := ⟨(RX1, TX1, 5), rfl, by decide, GW_of 136 (by decide +kernel) (by decide +kernel)⟩
theorem fl_X4_121 : FL RX4 121 1 4 := ⟨(RX1, TX1, 5), rfl, by decide, GW_of 137 (by decide +kernel) (by decide +kernel)⟩
theorem fl_X0_15 : FL RX0 15 0 0 := ⟨(RX0, TX0, 4), rfl, by decide, GW_of 154 (by decide +kernel) (by decide +kernel)⟩
theorem fp_X0_15 : FP RX0 15 0 0 .boolean := ⟨(RX0, TX0, 4), rfl, by decide, GW_of 154 (by decide +kernel) (by decide +kernel), rfl, by decide +kernel⟩
theorem fl_X4_218 : FL RX4 218 0 0 := ⟨(RX0, TX0, 4), rfl, by decide, GW_of 155 (by decide +kernel) (by decide +kernel)⟩
theorem fp_X4_218 : FP RX4 218 0 0 .boolean := ⟨(RX0, TX0, 4), rfl, by decide, GW_of 155 (by decide +kernel) (by decide +kernel), rfl, by decide +kernel⟩
theorem fl_X0_19 : FL RX0 19 0 1 := ⟨(RX0, TX0, 4), rfl, by decide, GW_of 156 (by decide +kernel) (by decide +kernel)⟩
theorem fp_X0_19 : FP RX0 19 0 1 .int := ⟨(RX0, TX0, 4), rfl, by decide, GW_of 156 (by decide +kernel) (by decide +kernel), rfl, by decide +kernel⟩
theorem fl_X4_228 : FL RX4 228 0 1 := ⟨(RX0, TX0, 4), rfl, by decide, GW_of 157 (by decide +kernel) (by decide +kernel)⟩
theorem fp_X4_228 : FP RX4 228 0 1 .int := ⟨(RX0, TX0, 4), rfl, by decide, GW_of 157 (by decide +kernel) (by decide +kernel), rfl, by decide +kernel⟩
theorem fl_X0_23 : FL RX0 23 0 2 := ⟨(RX0, TX0, 4), rfl, by decide, GW_of 158 (by decide +kernel) (by decide +kernel)⟩
theorem fp_X0_23 : FP RX0 23 0 2 .int := ⟨(RX0, TX0, 4), rfl, by decide, GW_of 158 (by decide +kernel) (by decide +kernel), rfl, by decide +kernel⟩
theorem fl_X0_9 : FL RX0 9 0 3 := ⟨(RX0, TX0, 4), rfl, by decide, GW_of 159 (by decide +kernel) (by decide +kernel)⟩
theorem fl_X4_225 : FL RX4 225 0 3 := ⟨(RX0, TX0, 4), rfl, by decide, GW_of 160 (by decide +kernel) (by decide +kernel)⟩
theorem fl_X4_11 : FL RX4 11 4 0 := ⟨(RX4, TX4, 16), rfl, by decide, GW_of 170 (by decide +kernel) (by decide +kernel)⟩
theorem fl_X4_162 : FL RX4 162 4 1 := ⟨(RX4, TX4, 16), rfl, by decide, GW_of 171 (by decide +kernel) (by decide +kernel)⟩
theorem fp_X4_162 : FP RX4 162 4 1 .int := ⟨(RX4, TX4, 16), rfl, by decide, GW_of 171 (by decide +kernel) (by decide +kernel), rfl, by decide +kernel⟩
theorem fl_X4_17 : FL RX4 17 4 2 := ⟨(RX4, TX4, 16), rfl, by decide, GW_of 172 (by decide +kernel) (by decide +kernel)⟩
theorem fl_X4_86 : FL RX4 86 4 3 := ⟨(RX4, TX4, 16), rfl, by decide, GW_of 173 (by decide +kernel) (by decide +kernel)⟩
theorem fp_X4_86 : FP RX4 86 4 3 .int := ⟨(RX4, TX4, 16), rfl, by decide, GW_of 173 (by decide +kernel) (by decide +kernel), rfl, by decide +kernel⟩
theorem fl_X4_137 : FL RX4 137 4 4 := ⟨(RX4, TX4, 16), rfl, by decide, GW_of 174 (by decide +kernel) (by decide +kernel)⟩
theorem fp_X4_137 : FP RX4 137 4 4 .int := ⟨(RX4, TX4, 16), rfl, by decide, GW_of 174 (by decide +kernel) (by decide +kernel), rfl, by decide +kernel⟩
theorem fl_X4_21 : FL RX4 21 4 5 := ⟨(RX4, TX4, 16), rfl, by decide, GW_of 175 (by decide +kernel) (by decide +kernel)⟩
theorem fl_X4_27 : FL RX4 27 4 6 := ⟨(RX4, TX4, 16), rfl, by decide, GW_of 176 (by decide +kernel) (by decide +kernel)⟩
theorem fl_X4_34 : FL RX4 34 4 7 := ⟨(RX4, TX4, 16), rfl, by decide, GW_of 177 (by decide +kernel) (by decide +kernel)⟩
theorem fl_X4_38 : FL RX4 38 4 8 := ⟨(RX4, TX4, 16), rfl, by decide, GW_of 178 (by decide +kernel) (by decide +kernel)⟩
theorem fl_X4_41 : FL RX4 41 4 9 := ⟨(RX4, TX4, 16), rfl, by decide, GW_of 179 (by decide +kernel) (by decide +kernel)⟩
theorem fl_X4_44 : FL RX4 44 4 10 := ⟨(RX4, TX4, 16), rfl, by decide, GW_of 180 (by decide +kernel) (by decide +kernel)⟩
theorem fl_X4_47 : FL RX4 47 4 11 := ⟨(RX4, TX4, 16), rfl, by decide, GW_of 181 (by decide +kernel) (by decide +kernel)⟩
theorem fl_X4_181 : FL RX4 181 4 12 := ⟨(RX4, TX4, 16), rfl, by decide, GW_of 182 (by decide +kernel) (by decide +kernel)⟩
theorem fp_X4_181 : FP RX4 181 4 12 .int := ⟨(RX4, TX4, 16), rfl, by decide, GW_of 182 (by decide +kernel) (by decide +kernel), rfl, by decide +kernel⟩
theorem fl_X4_52 : FL RX4 52 4 13 := ⟨(RX4, TX4, 16), rfl, by decide, GW_of 183 (by decide +kernel) (by decide +kernel)⟩
theorem fl_X4_255 : FL RX4 255 4 14 := ⟨(RX4, TX4, 16), rfl, by decide, GW_of 184 (by decide +kernel) (by decide +kernel)⟩
theorem fp_X4_255 : FP RX4 255 4 14 .int := ⟨(RX4, TX4, 16), rfl, by decide, GW_of 184 (by decide +kernel) (by decide +kernel), rfl, by decide +kernel⟩
theorem fl_X4_58 : FL RX4 58 4 15 := ⟨(RX4, TX4, 16), rfl, by decide, GW_of 185 (by decide +kernel) (by decide +kernel)⟩
theorem fp_X4_58 : FP RX4 58 4 15 .int := ⟨(RX4, TX4, 16), rfl, by decide, GW_of 185 (by decide +kernel) (by decide +kernel), rfl, by decide +kernel⟩
theorem gw_57 : Cond.initialized yX4_sea.cls ∈ GW := GW_of 57 (by decide +kernel) (by decide +kernel)
theorem gw_222 : Cond.code yX4_sea cX4_sea 8 (some .int) ∈ GW := GW_of 222 (by decide +kernel) (by decide +kernel)
theorem gw_220 : Cond.instanceMethod yX4_sea ∈ GW := GW_of 220 (by decide +kernel) (by decide +kernel)
theorem gw_221 : Cond.selects yX4_sea.cls yX4_sea yX4_sea ∈ GW := GW_of 221 (by decide +kernel) (by decide +kernel)
theorem ln_L_13 : LnkV RL 13 yX4_sea cX4_sea 8 (some .int) 4 := ⟨⟨GW_of 219 (by decide +kernel) (by decide +kernel), gw_220, gw_221, gw_57, gw_222⟩, by decide, ⟨by decide, by decide, by decide +kernel⟩⟩
theorem gw_225 : Cond.code yX4_isSheet cX4_isSheet 1 (some .boolean) ∈ GW := GW_of 225 (by decide +kernel) (by decide +kernel)
theorem gw_224 : Cond.static yX4_isSheet ∈ GW := GW_of 224 (by decide +kernel) (by decide +kernel)
theorem ln_X4_62 : LnkS RX4 62 yX4_isSheet cX4_isSheet 1 (some .boolean) 1 := ⟨⟨GW_of 223 (by decide +kernel) (by decide +kernel), gw_224, gw_57, gw_225⟩, by decide, ⟨by decide, by decide, by decide +kernel⟩⟩
theorem gw_228 : Cond.code yX4_isBelow cX4_isBelow 2 (some .boolean) ∈ GW := GW_of 228 (by decide +kernel) (by decide +kernel)
theorem gw_227 : Cond.static yX4_isBelow ∈ GW := GW_of 227 (by decide +kernel) (by decide +kernel)
theorem ln_X4_66 : LnkS RX4 66 yX4_isBelow cX4_isBelow 2 (some .boolean) 2 := ⟨⟨GW_of 226 (by decide +kernel) (by decide +kernel), gw_227, gw_57, gw_228⟩, by decide, ⟨by decide, by decide, by decide +kernel⟩⟩
theorem gw_61 : Cond.initialized yX0_faultOfTaking.cls ∈ GW := GW_of 61 (by decide +kernel) (by decide +kernel)
theorem gw_232 : Cond.code yX0_faultOfTaking cX0_faultOfTaking 4 (some .int) ∈ GW := GW_of 232 (by decide +kernel) (by decide +kernel)
theorem gw_230 : Cond.instanceMethod yX0_faultOfTaking ∈ GW := GW_of 230 (by decide +kernel) (by decide +kernel)
theorem gw_231 : Cond.selects yX0_faultOfTaking.cls yX0_faultOfTaking yX0_faultOfTaking ∈ GW := GW_of 231 (by decide +kernel) (by decide +kernel)
theorem ln_X4_70 : LnkV RX4 70 yX0_faultOfTaking cX0_faultOfTaking 4 (some .int) 3 := ⟨⟨GW_of 229 (by decide +kernel) (by decide +kernel), gw_230, gw_231, gw_61, gw_232⟩, by decide, ⟨by decide, by decide, by decide +kernel⟩⟩
theorem gw_236 : Cond.code yX0_reaches cX0_reaches 3 (some .boolean) ∈ GW := GW_of 236 (by decide +kernel) (by decide +kernel)
theorem gw_234 : Cond.instanceMethod yX0_reaches ∈ GW := GW_of 234 (by decide +kernel) (by decide +kernel)
theorem gw_235 : Cond.selects yX0_reaches.cls yX0_reaches yX0_reaches ∈ GW := GW_of 235 (by decide +kernel) (by decide +kernel)
theorem ln_X0_30 : LnkV RX0 30 yX0_reaches cX0_reaches 3 (some .boolean) 2 := ⟨⟨GW_of 233 (by decide +kernel) (by decide +kernel), gw_234, gw_235, gw_61, gw_236⟩, by decide, ⟨by decide, by decide, by decide +kernel⟩⟩
theorem gw_239 : Cond.code yX4_isUpTo cX4_isUpTo 2 (some .boolean) ∈ GW := GW_of 239 (by decide +kernel) (by decide +kernel)
theorem gw_238 : Cond.static yX4_isUpTo ∈ GW := GW_of 238 (by decide +kernel) (by decide +kernel)
theorem ln_X0_26 : LnkN RX0 26 yX4_isUpTo RX4 cX4_isUpTo 2 (some .boolean) 2 := ⟨⟨by decide, gw_238, gw_57, gw_239⟩, by decide, ⟨by decide, by decide, by decide +kernel⟩⟩
theorem gw_243 : Cond.code yX4_faulted cX4_faulted 2 (some .int) ∈ GW := GW_of 243 (by decide +kernel) (by decide +kernel)
theorem gw_242 : Cond.instanceMethod yX4_faulted ∈ GW := GW_of 242 (by decide +kernel) (by decide +kernel)
theorem gw_0 : Cond.selects yX4_faulted.cls yX4_faulted yX4_faulted ∈ GW := GW_of 0 (by decide +kernel) (by decide +kernel)
theorem ln_X4_74 : LnkV RX4 74 yX4_faulted cX4_faulted 2 (some .int) 1 := ⟨⟨GW_of 240 (by decide +kernel) (by decide +kernel), gw_242, gw_0, gw_57, gw_243⟩, by decide, ⟨by decide, by decide, by decide +kernel⟩⟩
theorem gw_246 : Cond.code yX4_firstFault cX4_firstFault 7 (some .int) ∈ GW := GW_of 246 (by decide +kernel) (by decide +kernel)
theorem gw_245 : Cond.static yX4_firstFault ∈ GW := GW_of 245 (by decide +kernel) (by decide +kernel)
theorem ln_X4_78 : LnkS RX4 78 yX4_firstFault cX4_firstFault 7 (some .int) 3 := ⟨⟨GW_of 244 (by decide +kernel) (by decide +kernel), gw_245, gw_57, gw_246⟩, by decide, ⟨by decide, by decide, by decide +kernel⟩⟩
theorem gw_250 : Cond.code yX0_codeAt cX0_codeAt 2 (some .int) ∈ GW := GW_of 250 (by decide +kernel) (by decide +kernel)
theorem gw_248 : Cond.instanceMethod yX0_codeAt ∈ GW := GW_of 248 (by decide +kernel) (by decide +kernel)
theorem gw_249 : Cond.selects yX0_codeAt.cls yX0_codeAt yX0_codeAt ∈ GW := GW_of 249 (by decide +kernel) (by decide +kernel)
theorem ln_X4_267 : LnkV RX4 267 yX0_codeAt cX0_codeAt 2 (some .int) 1 := ⟨⟨GW_of 247 (by decide +kernel) (by decide +kernel), gw_248, gw_249, gw_61, gw_250⟩, by decide, ⟨by decide, by decide, by decide +kernel⟩⟩
theorem ln_X0_33 : LnkN RX0 33 yX4_isBelow RX4 cX4_isBelow 2 (some .boolean) 2 := ⟨⟨by decide, gw_227, gw_57, gw_228⟩, by decide, ⟨by decide, by decide, by decide +kernel⟩⟩
theorem gw_254 : Cond.code yX4_countPorts cX4_countPorts 4 (some .int) ∈ GW := GW_of 254 (by decide +kernel) (by decide +kernel)
theorem gw_253 : Cond.static yX4_countPorts ∈ GW := GW_of 253 (by decide +kernel) (by decide +kernel)
theorem ln_X4_270 : LnkS RX4 270 yX4_countPorts cX4_countPorts 4 (some .int) 3 := ⟨⟨GW_of 252 (by decide +kernel) (by decide +kernel), gw_253, gw_57, gw_254⟩, by decide, ⟨by decide, by decide, by decide +kernel⟩⟩
theorem gw_257 : Cond.code yX4_isDigit cX4_isDigit 2 (some .boolean) ∈ GW := GW_of 257 (by decide +kernel) (by decide +kernel)
theorem gw_256 : Cond.static yX4_isDigit ∈ GW := GW_of 256 (by decide +kernel) (by decide +kernel)
theorem ln_X4_277 : LnkS RX4 277 yX4_isDigit cX4_isDigit 2 (some .boolean) 2 := ⟨⟨GW_of 255 (by decide +kernel) (by decide +kernel), gw_256, gw_57, gw_257⟩, by decide, ⟨by decide, by decide, by decide +kernel⟩⟩
theorem gw_260 : Cond.code yX4_countShipCodes cX4_countShipCodes 5 (some .int) ∈ GW := GW_of 260 (by decide +kernel) (by decide +kernel)
theorem gw_259 : Cond.static yX4_countShipCodes ∈ GW := GW_of 259 (by decide +kernel) (by decide +kernel)
theorem ln_X4_273 : LnkS RX4 273 yX4_countShipCodes cX4_countShipCodes 5 (some .int) 4 := ⟨⟨GW_of 258 (by decide +kernel) (by decide +kernel), gw_259, gw_57, gw_260⟩, by decide, ⟨by decide, by decide, by decide +kernel⟩⟩
theorem gw_263 : Cond.code yX4_isShipCode cX4_isShipCode 3 (some .boolean) ∈ GW := GW_of 263 (by decide +kernel) (by decide +kernel)
theorem gw_262 : Cond.static yX4_isShipCode ∈ GW := GW_of 262 (by decide +kernel) (by decide +kernel)
theorem ln_X4_280 : LnkS RX4 280 yX4_isShipCode cX4_isShipCode 3 (some .boolean) 3 := ⟨⟨GW_of 261 (by decide +kernel) (by decide +kernel), gw_262, gw_57, gw_263⟩, by decide, ⟨by decide, by decide, by decide +kernel⟩⟩
theorem gw_266 : Cond.code yX4_kindByCode cX4_kindByCode 1 (some .int) ∈ GW := GW_of 266 (by decide +kernel) (by decide +kernel)
theorem gw_265 : Cond.static yX4_kindByCode ∈ GW := GW_of 265 (by decide +kernel) (by decide +kernel)
theorem ln_X4_284 : LnkS RX4 284 yX4_kindByCode cX4_kindByCode 1 (some .int) 1 := ⟨⟨GW_of 264 (by decide +kernel) (by decide +kernel), gw_265, gw_57, gw_266⟩, by decide, ⟨by decide, by decide, by decide +kernel⟩⟩
theorem gw_270 : Cond.code yX4_takeText cX4_takeText 5 none ∈ GW := GW_of 270 (by decide +kernel) (by decide +kernel)
theorem gw_269 : Cond.instanceMethod yX4_takeText ∈ GW := GW_of 269 (by decide +kernel) (by decide +kernel)
theorem gw_1 : Cond.selects yX4_takeText.cls yX4_takeText yX4_takeText ∈ GW := GW_of 1 (by decide +kernel) (by decide +kernel)
theorem ln_X4_82 : LnkV RX4 82 yX4_takeText cX4_takeText 5 none 3 := ⟨⟨GW_of 267 (by decide +kernel) (by decide +kernel), gw_269, gw_1, gw_57, gw_270⟩, by decide, ⟨by decide, by decide, by decide +kernel⟩⟩
theorem gw_274 : Cond.code yX0_digitAt cX0_digitAt 2 (some .int) ∈ GW := GW_of 274 (by decide +kernel) (by decide +kernel)
theorem gw_272 : Cond.instanceMethod yX0_digitAt ∈ GW := GW_of 272 (by decide +kernel) (by decide +kernel)
theorem gw_273 : Cond.selects yX0_digitAt.cls yX0_digitAt yX0_digitAt ∈ GW := GW_of 273 (by decide +kernel) (by decide +kernel)
theorem ln_X4_287 : LnkV RX4 287 yX0_digitAt cX0_digitAt 2 (some .int) 1 := ⟨⟨GW_of 271 (by decide +kernel) (by decide +kernel), gw_272, gw_273, gw_61, gw_274⟩, by decide, ⟨by decide, by decide, by decide +kernel⟩⟩
theorem ln_X0_36 : LnkV RX0 36 yX0_codeAt cX0_codeAt 2 (some .int) 1 := ⟨⟨GW_of 275 (by decide +kernel) (by decide +kernel), gw_248, gw_249, gw_61, gw_250⟩, by decide, ⟨by decide, by decide, by decide +kernel⟩⟩
theorem gw_278 : Cond.code yX4_takeShip cX4_takeShip 4 none ∈ GW := GW_of 278 (by decide +kernel) (by decide +kernel)
theorem gw_277 : Cond.static yX4_takeShip ∈ GW := GW_of 277 (by decide +kernel) (by decide +kernel)
theorem ln_X4_290 : LnkS RX4 290 yX4_takeShip cX4_takeShip 4 none 3 := ⟨⟨GW_of 276 (by decide +kernel) (by decide +kernel), gw_277, gw_57, gw_278⟩, by decide, ⟨by decide, by decide, by decide +kernel⟩⟩
theorem gw_282 : Cond.code yX4_ofShip cX4_ofShip 4 (some .int) ∈ GW := GW_of 282 (by decide +kernel) (by decide +kernel)
theorem gw_280 : Cond.instanceMethod yX4_ofShip ∈ GW := GW_of 280 (by decide +kernel) (by decide +kernel)
theorem gw_281 : Cond.selects yX4_ofShip.cls yX4_ofShip yX4_ofShip ∈ GW := GW_of 281 (by decide +kernel) (by decide +kernel)
theorem ln_L_18 : LnkV RL 18 yX4_ofShip cX4_ofShip 4 (some .int) 2 := ⟨⟨GW_of 279 (by decide +kernel) (by decide +kernel), gw_280, gw_281, gw_57, gw_282⟩, by decide, ⟨by decide, by decide, by decide +kernel⟩⟩
theorem gw_286 : Cond.code yX4_isShip cX4_isShip 2 (some .boolean) ∈ GW := GW_of 286 (by decide +kernel) (by decide +kernel)
theorem gw_285 : Cond.instanceMethod yX4_isShip ∈ GW := GW_of 285 (by decide +kernel) (by decide +kernel)
theorem gw_2 : Cond.selects yX4_isShip.cls yX4_isShip yX4_isShip ∈ GW := GW_of 2 (by decide +kernel) (by decide +kernel)
theorem ln_X4_89 : LnkV RX4 89 yX4_isShip cX4_isShip 2 (some .boolean) 1 := ⟨⟨GW_of 283 (by decide +kernel) (by decide +kernel), gw_285, gw_2, gw_57, gw_286⟩, by decide, ⟨by decide, by decide, by decide +kernel⟩⟩
theorem gw_60 : Cond.initialized yX1_bearing.cls ∈ GW := GW_of 60 (by decide +kernel) (by decide +kernel)
theorem gw_290 : Cond.code yX1_bearing cX1_bearing 1 (some .int) ∈ GW := GW_of 290 (by decide +kernel) (by decide +kernel)
theorem gw_288 : Cond.instanceMethod yX1_bearing ∈ GW := GW_of 288 (by decide +kernel) (by decide +kernel)
theorem gw_289 : Cond.selects yX1_bearing.cls yX1_bearing yX1_bearing ∈ GW := GW_of 289 (by decide +kernel) (by decide +kernel)
theorem ln_X4_101 : LnkV RX4 101 yX1_bearing cX1_bearing 1 (some .int) 0 := ⟨⟨GW_of 287 (by decide +kernel) (by decide +kernel), gw_288, gw_289, gw_60, gw_290⟩, by decide, ⟨by decide, by decide, by decide +kernel⟩⟩
theorem gw_293 : Cond.code yX4_bearingOf cX4_bearingOf 2 (some .int) ∈ GW := GW_of 293 (by decide +kernel) (by decide +kernel)
theorem gw_292 : Cond.static yX4_bearingOf ∈ GW := GW_of 292 (by decide +kernel) (by decide +kernel)
theorem ln_X1_22 : LnkN RX1 22 yX4_bearingOf RX4 cX4_bearingOf 2 (some .int) 2 := ⟨⟨by decide, gw_292, gw_57, gw_293⟩, by decide, ⟨by decide, by decide, by decide +kernel⟩⟩
theorem gw_297 : Cond.code yX1_isMet cX1_isMet 1 (some .boolean) ∈ GW := GW_of 297 (by decide +kernel) (by decide +kernel)
theorem gw_295 : Cond.instanceMethod yX1_isMet ∈ GW := GW_of 295 (by decide +kernel) (by decide +kernel)
theorem gw_296 : Cond.selects yX1_isMet.cls yX1_isMet yX1_isMet ∈ GW := GW_of 296 (by decide +kernel) (by decide +kernel)
theorem ln_X4_108 : LnkV RX4 108 yX1_isMet cX1_isMet 1 (some .boolean) 0 := ⟨⟨GW_of 294 (by decide +kernel) (by decide +kernel), gw_295, gw_296, gw_60, gw_297⟩, by decide, ⟨by decide, by decide, by decide +kernel⟩⟩
theorem gw_301 : Cond.code yX1_worth cX1_worth 1 (some .int) ∈ GW := GW_of 301 (by decide +kernel) (by decide +kernel)
theorem gw_299 : Cond.instanceMethod yX1_worth ∈ GW := GW_of 299 (by decide +kernel) (by decide +kernel)
theorem gw_300 : Cond.selects yX1_worth.cls yX1_worth yX1_worth ∈ GW := GW_of 300 (by decide +kernel) (by decide +kernel)
theorem ln_X4_112 : LnkV RX4 112 yX1_worth cX1_worth 1 (some .int) 0 := ⟨⟨GW_of 298 (by decide +kernel) (by decide +kernel), gw_299, gw_300, gw_60, gw_301⟩, by decide, ⟨by decide, by decide, by decide +kernel⟩⟩
theorem gw_304 : Cond.code yX4_worthOfAll cX4_worthOfAll 3 (some .int) ∈ GW := GW_of 304 (by decide +kernel) (by decide +kernel)
theorem gw_303 : Cond.static yX4_worthOfAll ∈ GW := GW_of 303 (by decide +kernel) (by decide +kernel)
theorem ln_X1_29 : LnkN RX1 29 yX4_worthOfAll RX4 cX4_worthOfAll 3 (some .int) 1 := ⟨⟨by decide, gw_303, gw_57, gw_304⟩, by decide, ⟨by decide, by decide, by decide +kernel⟩⟩
theorem gw_307 : Cond.code yX4_worthOf cX4_worthOf 1 (some .int) ∈ GW := GW_of 307 (by decide +kernel) (by decide +kernel)
theorem gw_306 : Cond.static yX4_worthOf ∈ GW := GW_of 306 (by decide +kernel) (by decide +kernel)
theorem ln_X4_211 : LnkS RX4 211 yX4_worthOf cX4_worthOf 1 (some .int) 1 := ⟨⟨GW_of 305 (by decide +kernel) (by decide +kernel), gw_306, gw_57, gw_307⟩, by decide, ⟨by decide, by decide, by decide +kernel⟩⟩
theorem gw_311 : Cond.code yX1_pieces cX1_pieces 3 (some .int) ∈ GW := GW_of 311 (by decide +kernel) (by decide +kernel)
theorem gw_309 : Cond.instanceMethod yX1_pieces ∈ GW := GW_of 309 (by decide +kernel) (by decide +kernel)
theorem gw_310 : Cond.selects yX1_pieces.cls yX1_pieces yX1_pieces ∈ GW := GW_of 310 (by decide +kernel) (by decide +kernel)
theorem ln_X4_115 : LnkV RX4 115 yX1_pieces cX1_pieces 3 (some .int) 0 := ⟨⟨GW_of 308 (by decide +kernel) (by decide +kernel), gw_309, gw_310, gw_60, gw_311⟩, by decide, ⟨by decide, by decide, by decide +kernel⟩⟩
theorem gw_314 : Cond.code yX4_isGood cX4_isGood 1 (some .boolean) ∈ GW := GW_of 314 (by decide +kernel) (by decide +kernel)
theorem gw_313 : Cond.static yX4_isGood ∈ GW := GW_of 313 (by decide +kernel) (by decide +kernel)
theorem ln_X4_118 : LnkS RX4 118 yX4_isGood cX4_isGood 1 (some .boolean) 1 := ⟨⟨GW_of 312 (by decide +kernel) (by decide +kernel), gw_313, gw_57, gw_314⟩, by decide, ⟨by decide, by decide, by decide +kernel⟩⟩
theorem gw_318 : Cond.code yX4_rough cX4_rough 2 (some .int) ∈ GW := GW_of 318 (by decide +kernel) (by decide +kernel)
theorem gw_316 : Cond.instanceMethod yX4_rough ∈ GW := GW_of 316 (by decide +kernel) (by decide +kernel)
theorem gw_317 : Cond.selects yX4_rough.cls yX4_rough yX4_rough ∈ GW := GW_of 317 (by decide +kernel) (by decide +kernel)
theorem ln_L_23 : LnkV RL 23 yX4_rough cX4_rough 2 (some .int) 1 := ⟨⟨GW_of 315 (by decide +kernel) (by decide +kernel), gw_316, gw_317, gw_57, gw_318⟩, by decide, ⟨by decide, by decide, by decide +kernel⟩⟩
theorem gw_322 : Cond.code yX4_isPort cX4_isPort 2 (some .boolean) ∈ GW := GW_of 322 (by decide +kernel) (by decide +kernel)
theorem gw_321 : Cond.instanceMethod yX4_isPort ∈ GW := GW_of 321 (by decide +kernel) (by decide +kernel)
theorem gw_3 : Cond.selects yX4_isPort.cls yX4_isPort yX4_isPort ∈ GW := GW_of 3 (by decide +kernel) (by decide +kernel)
theorem ln_X4_124 : LnkV RX4 124 yX4_isPort cX4_isPort 2 (some .boolean) 1 := ⟨⟨GW_of 319 (by decide +kernel) (by decide +kernel), gw_321, gw_3, gw_57, gw_322⟩, by decide, ⟨by decide, by decide, by decide +kernel⟩⟩
theorem gw_326 : Cond.code yX4_blow cX4_blow 4 (some .int) ∈ GW := GW_of 326 (by decide +kernel) (by decide +kernel)
theorem gw_324 : Cond.instanceMethod yX4_blow ∈ GW := GW_of 324 (by decide +kernel) (by decide +kernel)
theorem gw_325 : Cond.selects yX4_blow.cls yX4_blow yX4_blow ∈ GW := GW_of 325 (by decide +kernel) (by decide +kernel)
theorem ln_L_28 : LnkV RL 28 yX4_blow cX4_blow 4 (some .int) 2 := ⟨⟨GW_of 323 (by decide +kernel) (by decide +kernel), gw_324, gw_325, gw_57, gw_326⟩, by decide, ⟨by decide, by decide, by decide +kernel⟩⟩
theorem ln_X4_127 : LnkS RX4 127 yX4_isUpTo cX4_isUpTo 2 (some .boolean) 2 := ⟨⟨GW_of 327 (by decide +kernel) (by decide +kernel), gw_238, gw_57, gw_239⟩, by decide, ⟨by decide, by decide, by decide +kernel⟩⟩
theorem gw_331 : Cond.code yX4_name cX4_name 4 (some .int) ∈ GW := GW_of 331 (by decide +kernel) (by decide +kernel)
theorem gw_329 : Cond.instanceMethod yX4_name ∈ GW := GW_of 329 (by decide +kernel) (by decide +kernel)
theorem gw_330 : Cond.selects yX4_name.cls yX4_name yX4_name ∈ GW := GW_of 330 (by decide +kernel) (by decide +kernel)
theorem ln_L_32 : LnkV RL 32 yX4_name cX4_name 4 (some .int) 2 := ⟨⟨GW_of 328 (by decide +kernel) (by decide +kernel), gw_329, gw_330, gw_57, gw_331⟩, by decide, ⟨by decide, by decide, by decide +kernel⟩⟩
theorem gw_335 : Cond.code yX4_days cX4_days 5 (some .int) ∈ GW := GW_of 335 (by decide +kernel) (by decide +kernel)
theorem gw_333 : Cond.instanceMethod yX4_days ∈ GW := GW_of 333 (by decide +kernel) (by decide +kernel)
theorem gw_334 : Cond.selects yX4_days.cls yX4_days yX4_days ∈ GW := GW_of 334 (by decide +kernel) (by decide +kernel)
theorem ln_L_36 : LnkV RL 36 yX4_days cX4_days 5 (some .int) 1 := ⟨⟨GW_of 332 (by decide +kernel) (by decide +kernel), gw_333, gw_334, gw_57, gw_335⟩, by decide, ⟨by decide, by decide, by decide +kernel⟩⟩
theorem gw_339 : Cond.code yX4_hasSea cX4_hasSea 1 (some .boolean) ∈ GW := GW_of 339 (by decide +kernel) (by decide +kernel)
theorem gw_338 : Cond.instanceMethod yX4_hasSea ∈ GW := GW_of 338 (by decide +kernel) (by decide +kernel)
theorem gw_4 : Cond.selects yX4_hasSea.cls yX4_hasSea yX4_hasSea ∈ GW := GW_of 4 (by decide +kernel) (by decide +kernel)
theorem ln_X4_130 : LnkV RX4 130 yX4_hasSea cX4_hasSea 1 (some .boolean) 0 := ⟨⟨GW_of 336 (by decide +kernel) (by decide +kernel), gw_338, gw_4, gw_57, gw_339⟩, by decide, ⟨by decide, by decide, by decide +kernel⟩⟩
theorem gw_343 : Cond.code yX4_sailDay cX4_sailDay 3 (some .int) ∈ GW := GW_of 343 (by decide +kernel) (by decide +kernel)
theorem gw_342 : Cond.instanceMethod yX4_sailDay ∈ GW := GW_of 342 (by decide +kernel) (by decide +kernel)
theorem gw_5 : Cond.selects yX4_sailDay.cls yX4_sailDay yX4_sailDay ∈ GW := GW_of 5 (by decide +kernel) (by decide +kernel)
theorem ln_X4_133 : LnkV RX4 133 yX4_sailDay cX4_sailDay 3 (some .int) 1 := ⟨⟨GW_of 340 (by decide +kernel) (by decide +kernel), gw_342, gw_5, gw_57, gw_343⟩, by decide, ⟨by decide, by decide, by decide +kernel⟩⟩
theorem gw_347 : Cond.code yX1_goodThatGoes cX1_goodThatGoes 2 (some .int) ∈ GW := GW_of 347 (by decide +kernel) (by decide +kernel)
theorem gw_345 : Cond.instanceMethod yX1_goodThatGoes ∈ GW := GW_of 345 (by decide +kernel) (by decide +kernel)
theorem gw_346 : Cond.selects yX1_goodThatGoes.cls yX1_goodThatGoes yX1_goodThatGoes ∈ GW := GW_of 346 (by decide +kernel) (by decide +kernel)
theorem ln_X4_201 : LnkV RX4 201 yX1_goodThatGoes cX1_goodThatGoes 2 (some .int) 0 := ⟨⟨GW_of 344 (by decide +kernel) (by decide +kernel), gw_345, gw_346, gw_60, gw_347⟩, by decide, ⟨by decide, by decide, by decide +kernel⟩⟩
theorem ln_X1_33 : LnkV RX1 33 yX1_isMet cX1_isMet 1 (some .boolean) 0 := ⟨⟨GW_of 348 (by decide +kernel) (by decide +kernel), gw_295, gw_296, gw_60, gw_297⟩, by decide, ⟨by decide, by decide, by decide +kernel⟩⟩
theorem gw_352 : Cond.code yX4_portBehind cX4_portBehind 2 (some .int) ∈ GW := GW_of 352 (by decide +kernel) (by decide +kernel)
theorem gw_351 : Cond.instanceMethod yX4_portBehind ∈ GW := GW_of 351 (by decide +kernel) (by decide +kernel)
theorem gw_6 : Cond.selects yX4_portBehind.cls yX4_portBehind yX4_portBehind ∈ GW := GW_of 6 (by decide +kernel) (by decide +kernel)
theorem ln_X4_155 : LnkV RX4 155 yX4_portBehind cX4_portBehind 2 (some .int) 1 := ⟨⟨GW_of 349 (by decide +kernel) (by decide +kernel), gw_351, gw_6, gw_57, gw_352⟩, by decide, ⟨by decide, by decide, by decide +kernel⟩⟩
theorem gw_356 : Cond.code yX4_load cX4_load 5 (some .int) ∈ GW := GW_of 356 (by decide +kernel) (by decide +kernel)
theorem gw_354 : Cond.instanceMethod yX4_load ∈ GW := GW_of 354 (by decide +kernel) (by decide +kernel)
theorem gw_355 : Cond.selects yX4_load.cls yX4_load yX4_load ∈ GW := GW_of 355 (by decide +kernel) (by decide +kernel)
theorem ln_L_40 : LnkV RL 40 yX4_load cX4_load 5 (some .int) 3 := ⟨⟨GW_of 353 (by decide +kernel) (by decide +kernel), gw_354, gw_355, gw_57, gw_356⟩, by decide, ⟨by decide, by decide, by decide +kernel⟩⟩
theorem gw_359 : Cond.code yX4_isLot cX4_isLot 1 (some .boolean) ∈ GW := GW_of 359 (by decide +kernel) (by decide +kernel)
theorem gw_358 : Cond.static yX4_isLot ∈ GW := GW_of 358 (by decide +kernel) (by decide +kernel)
theorem ln_X4_140 : LnkS RX4 140 yX4_isLot cX4_isLot 1 (some .boolean) 1 := ⟨⟨GW_of 357 (by decide +kernel) (by decide +kernel), gw_358, gw_57, gw_359⟩, by decide, ⟨by decide, by decide, by decide +kernel⟩⟩
theorem gw_363 : Cond.code yX4_off cX4_off 5 (some .int) ∈ GW := GW_of 363 (by decide +kernel) (by decide +kernel)
theorem gw_361 : Cond.instanceMethod yX4_off ∈ GW := GW_of 361 (by decide +kernel) (by decide +kernel)
theorem gw_362 : Cond.selects yX4_off.cls yX4_off yX4_off ∈ GW := GW_of 362 (by decide +kernel) (by decide +kernel)
theorem ln_L_45 : LnkV RL 45 yX4_off cX4_off 5 (some .int) 3 := ⟨⟨GW_of 360 (by decide +kernel) (by decide +kernel), gw_361, gw_362, gw_57, gw_363⟩, by decide, ⟨by decide, by decide, by decide +kernel⟩⟩
theorem gw_367 : Cond.code yX4_voyage cX4_voyage 10 (some .int) ∈ GW := GW_of 367 (by decide +kernel) (by decide +kernel)
theorem gw_365 : Cond.instanceMethod yX4_voyage ∈ GW := GW_of 365 (by decide +kernel) (by decide +kernel)
theorem gw_366 : Cond.selects yX4_voyage.cls yX4_voyage yX4_voyage ∈ GW := GW_of 366 (by decide +kernel) (by decide +kernel)
theorem ln_L_49 : LnkV RL 49 yX4_voyage cX4_voyage 10 (some .int) 5 := ⟨⟨GW_of 364 (by decide +kernel) (by decide +kernel), gw_365, gw_366, gw_57, gw_367⟩, by decide, ⟨by decide, by decide, by decide +kernel⟩⟩
theorem gw_370 : Cond.code yX4_isAskedOfVoyage cX4_isAskedOfVoyage 1 (some .boolean) ∈ GW := GW_of 370 (by decide +kernel) (by decide +kernel)
theorem gw_369 : Cond.static yX4_isAskedOfVoyage ∈ GW := GW_of 369 (by decide +kernel) (by decide +kernel)
theorem ln_X4_143 : LnkS RX4 143 yX4_isAskedOfVoyage cX4_isAskedOfVoyage 1 (some .boolean) 1 := ⟨⟨GW_of 368 (by decide +kernel) (by decide +kernel), gw_369, gw_57, gw_370⟩, by decide, ⟨by decide, by decide, by decide +kernel⟩⟩
theorem gw_374 : Cond.code yX4_refusalOfPairs cX4_refusalOfPairs 7 (some .int) ∈ GW := GW_of 374 (by decide +kernel) (by decide +kernel)
theorem gw_373 : Cond.instanceMethod yX4_refusalOfPairs ∈ GW := GW_of 373 (by decide +kernel) (by decide +kernel)
theorem gw_7 : Cond.selects yX4_refusalOfPairs.cls yX4_refusalOfPairs yX4_refusalOfPairs ∈ GW := GW_of 7 (by decide +kernel) (by decide +kernel)
theorem ln_X4_146 : LnkV RX4 146 yX4_refusalOfPairs cX4_refusalOfPairs 7 (some .int) 3 := ⟨⟨GW_of 371 (by decide +kernel) (by decide +kernel), gw_373, gw_7, gw_57, gw_374⟩, by decide, ⟨by decide, by decide, by decide +kernel⟩⟩
theorem gw_378 : Cond.code yX4_sailVoyage cX4_sailVoyage 7 (some .int) ∈ GW := GW_of 378 (by decide +kernel) (by decide +kernel)
theorem gw_377 : Cond.instanceMethod yX4_sailVoyage ∈ GW := GW_of 377 (by decide +kernel) (by decide +kernel)
theorem gw_8 : Cond.selects yX4_sailVoyage.cls yX4_sailVoyage yX4_sailVoyage ∈ GW := GW_of 8 (by decide +kernel) (by decide +kernel)
theorem ln_X4_149 : LnkV RX4 149 yX4_sailVoyage cX4_sailVoyage 7 (some .int) 3 := ⟨⟨GW_of 375 (by decide +kernel) (by decide +kernel), gw_377, gw_8, gw_57, gw_378⟩, by decide, ⟨by decide, by decide, by decide +kernel⟩⟩
theorem gw_382 : Cond.code yX1_becomeLike cX1_becomeLike 2 none ∈ GW := GW_of 382 (by decide +kernel) (by decide +kernel)
theorem gw_380 : Cond.instanceMethod yX1_becomeLike ∈ GW := GW_of 380 (by decide +kernel) (by decide +kernel)
theorem gw_381 : Cond.selects yX1_becomeLike.cls yX1_becomeLike yX1_becomeLike ∈ GW := GW_of 381 (by decide +kernel) (by decide +kernel)
theorem ln_X4_303 : LnkV RX4 303 yX1_becomeLike cX1_becomeLike 2 none 1 := ⟨⟨GW_of 379 (by decide +kernel) (by decide +kernel), gw_380, gw_381, gw_60, gw_382⟩, by decide, ⟨by decide, by decide, by decide +kernel⟩⟩
theorem gw_58 : Cond.initialized yX3_begin.cls ∈ GW := GW_of 58 (by decide +kernel) (by decide +kernel)
theorem gw_389 : Cond.code yX3_begin cX3_begin 1 none ∈ GW := GW_of 389 (by decide +kernel) (by decide +kernel)
theorem gw_387 : Cond.instanceMethod yX3_begin ∈ GW := GW_of 387 (by decide +kernel) (by decide +kernel)
theorem gw_388 : Cond.selects yX3_begin.cls yX3_begin yX3_begin ∈ GW := GW_of 388 (by decide +kernel) (by decide +kernel)
theorem ln_X4_307 : LnkV RX4 307 yX3_begin cX3_begin 1 none 0 := ⟨⟨GW_of 386 (by decide +kernel) (by decide +kernel), gw_387, gw_388, gw_58, gw_389⟩, by decide, ⟨by decide, by decide, by decide +kernel⟩⟩
theorem gw_393 : Cond.code yX4_sailToldDays cX4_sailToldDays 5 none ∈ GW := GW_of 393 (by decide +kernel) (by decide +kernel)
theorem gw_392 : Cond.instanceMethod yX4_sailToldDays ∈ GW := GW_of 392 (by decide +kernel) (by decide +kernel)
theorem gw_9 : Cond.selects yX4_sailToldDays.cls yX4_sailToldDays yX4_sailToldDays ∈ GW := GW_of 9 (by decide +kernel) (by decide +kernel)
theorem ln_X4_309 : LnkV RX4 309 yX4_sailToldDays cX4_sailToldDays 5 none 1 := ⟨⟨GW_of 390 (by decide +kernel) (by decide +kernel), gw_392, gw_9, gw_57, gw_393⟩, by decide, ⟨by decide, by decide, by decide +kernel⟩⟩
theorem gw_397 : Cond.code yX3_count cX3_count 4 none ∈ GW := GW_of 397 (by decide +kernel) (by decide +kernel)
theorem gw_395 : Cond.instanceMethod yX3_count ∈ GW := GW_of 395 (by decide +kernel) (by decide +kernel)
theorem gw_396 : Cond.selects yX3_count.cls yX3_count yX3_count ∈ GW := GW_of 396 (by decide +kernel) (by decide +kernel)
theorem ln_X4_316 : LnkV RX4 316 yX3_count cX3_count 4 none 3 := ⟨⟨GW_of 394 (by decide +kernel) (by decide +kernel), gw_395, gw_396, gw_58, gw_397⟩, by decide, ⟨by decide, by decide, by decide +kernel⟩⟩
theorem ln_X3_21 : LnkN RX3 21 yX4_worthOf RX4 cX4_worthOf 1 (some .int) 1 := ⟨⟨by decide, gw_306, gw_57, gw_307⟩, by decide, ⟨by decide, by decide, by decide +kernel⟩⟩
theorem gw_402 : Cond.code yX1_doAct cX1_doAct 4 (some .boolean) ∈ GW := GW_of 402 (by decide +kernel) (by decide +kernel)
theorem gw_400 : Cond.instanceMethod yX1_doAct ∈ GW := GW_of 400 (by decide +kernel) (by decide +kernel)
theorem gw_401 : Cond.selects yX1_doAct.cls yX1_doAct yX1_doAct ∈ GW := GW_of 401 (by decide +kernel) (by decide +kernel)
theorem ln_X4_313 : LnkV RX4 313 yX1_doAct cX1_doAct 4 (some .boolean) 1 := ⟨⟨GW_of 399 (by decide +kernel) (by decide +kernel), gw_400, gw_401, gw_60, gw_402⟩, by decide, ⟨by decide, by decide, by decide +kernel⟩⟩
theorem ln_X1_37 : LnkN RX1 37 yX4_isGood RX4 cX4_isGood 1 (some .boolean) 1 := ⟨⟨by decide, gw_313, gw_57, gw_314⟩, by decide, ⟨by decide, by decide, by decide +kernel⟩⟩
theorem ln_X1_41 : LnkN RX1 41 yX4_isUpTo RX4 cX4_isUpTo 2 (some .boolean) 2 := ⟨⟨by decide, gw_238, gw_57, gw_239⟩, by decide, ⟨by decide, by decide, by decide +kernel⟩⟩
theorem gw_408 : Cond.code yX4_ofVoyage cX4_ofVoyage 2 (some .int) ∈ GW := GW_of 408 (by decide +kernel) (by decide +kernel)
theorem gw_407 : Cond.instanceMethod yX4_ofVoyage ∈ GW := GW_of 407 (by decide +kernel) (by decide +kernel)
theorem gw_10 : Cond.selects yX4_ofVoyage.cls yX4_ofVoyage yX4_ofVoyage ∈ GW := GW_of 10 (by decide +kernel) (by decide +kernel)
theorem ln_X4_152 : LnkV RX4 152 yX4_ofVoyage cX4_ofVoyage 2 (some .int) 1 := ⟨⟨GW_of 405 (by decide +kernel) (by decide +kernel), gw_407, gw_10, gw_57, gw_408⟩, by decide, ⟨by decide, by decide, by decide +kernel⟩⟩
theorem gw_412 : Cond.code yX4_metOf cX4_metOf 4 (some .int) ∈ GW := GW_of 412 (by decide +kernel) (by decide +kernel)
theorem gw_411 : Cond.instanceMethod yX4_metOf ∈ GW := GW_of 411 (by decide +kernel) (by decide +kernel)
theorem gw_11 : Cond.selects yX4_metOf.cls yX4_metOf yX4_metOf ∈ GW := GW_of 11 (by decide +kernel) (by decide +kernel)
theorem ln_X4_258 : LnkV RX4 258 yX4_metOf cX4_metOf 4 (some .int) 1 := ⟨⟨GW_of 409 (by decide +kernel) (by decide +kernel), gw_411, gw_11, gw_57, gw_412⟩, by decide, ⟨by decide, by decide, by decide +kernel⟩⟩
theorem gw_416 : Cond.code yX4_keeps cX4_keeps 7 (some .int) ∈ GW := GW_of 416 (by decide +kernel) (by decide +kernel)
theorem gw_414 : Cond.instanceMethod yX4_keeps ∈ GW := GW_of 414 (by decide +kernel) (by decide +kernel)
theorem gw_415 : Cond.selects yX4_keeps.cls yX4_keeps yX4_keeps ∈ GW := GW_of 415 (by decide +kernel) (by decide +kernel)
theorem ln_L_54 : LnkV RL 54 yX4_keeps cX4_keeps 7 (some .int) 1 := ⟨⟨GW_of 413 (by decide +kernel) (by decide +kernel), gw_414, gw_415, gw_57, gw_416⟩, by decide, ⟨by decide, by decide, by decide +kernel⟩⟩
theorem gw_420 : Cond.code yX4_harbour cX4_harbour 9 (some .int) ∈ GW := GW_of 420 (by decide +kernel) (by decide +kernel)
theorem gw_418 : Cond.instanceMethod yX4_harbour ∈ GW := GW_of 418 (by decide +kernel) (by decide +kernel)
theorem gw_419 : Cond.selects yX4_harbour.cls yX4_harbour yX4_harbour ∈ GW := GW_of 419 (by decide +kernel) (by decide +kernel)
theorem ln_L_58 : LnkV RL 58 yX4_harbour cX4_harbour 9 (some .int) 3 := ⟨⟨GW_of 417 (by decide +kernel) (by decide +kernel), gw_418, gw_419, gw_57, gw_420⟩, by decide, ⟨by decide, by decide, by decide +kernel⟩⟩
theorem gw_424 : Cond.code yX4_worthLostFrom cX4_worthLostFrom 4 (some .int) ∈ GW := GW_of 424 (by decide +kernel) (by decide +kernel)
theorem gw_423 : Cond.instanceMethod yX4_worthLostFrom ∈ GW := GW_of 423 (by decide +kernel) (by decide +kernel)
theorem gw_12 : Cond.selects yX4_worthLostFrom.cls yX4_worthLostFrom yX4_worthLostFrom ∈ GW := GW_of 12 (by decide +kernel) (by decide +kernel)
theorem ln_X4_158 : LnkV RX4 158 yX4_worthLostFrom cX4_worthLostFrom 4 (some .int) 3 := ⟨⟨GW_of 421 (by decide +kernel) (by decide +kernel), gw_423, gw_12, gw_57, gw_424⟩, by decide, ⟨by decide, by decide, by decide +kernel⟩⟩
theorem gw_428 : Cond.code yX4_roughDays cX4_roughDays 7 (some .int) ∈ GW := GW_of 428 (by decide +kernel) (by decide +kernel)
theorem gw_427 : Cond.instanceMethod yX4_roughDays ∈ GW := GW_of 427 (by decide +kernel) (by decide +kernel)
theorem gw_13 : Cond.selects yX4_roughDays.cls yX4_roughDays yX4_roughDays ∈ GW := GW_of 13 (by decide +kernel) (by decide +kernel)
theorem ln_X4_165 : LnkV RX4 165 yX4_roughDays cX4_roughDays 7 (some .int) 3 := ⟨⟨GW_of 425 (by decide +kernel) (by decide +kernel), gw_427, gw_13, gw_57, gw_428⟩, by decide, ⟨by decide, by decide, by decide +kernel⟩⟩
theorem gw_431 : Cond.code yX4_fillLosses cX4_fillLosses 6 none ∈ GW := GW_of 431 (by decide +kernel) (by decide +kernel)
theorem gw_430 : Cond.static yX4_fillLosses ∈ GW := GW_of 430 (by decide +kernel) (by decide +kernel)
theorem ln_X4_191 : LnkS RX4 191 yX4_fillLosses cX4_fillLosses 6 none 4 := ⟨⟨GW_of 429 (by decide +kernel) (by decide +kernel), gw_430, gw_57, gw_431⟩, by decide, ⟨by decide, by decide, by decide +kernel⟩⟩
theorem gw_64 : Cond.initialized yM_min.cls ∈ GW := GW_of 64 (by decide +kernel) (by decide +kernel)
theorem gw_434 : Cond.code yM_min prog_9_method_69_code 2 (some .int) ∈ GW := GW_of 434 (by decide +kernel) (by decide +kernel)
theorem gw_433 : Cond.static yM_min ∈ GW := GW_of 433 (by decide +kernel) (by decide +kernel)
theorem ln_X4_298 : LnkS RX4 298 yM_min prog_9_method_69_code 2 (some .int) 2 := ⟨⟨GW_of 432 (by decide +kernel) (by decide +kernel), gw_433, gw_64, gw_434⟩, by decide, ⟨by decide, by decide, by decide +kernel⟩⟩
theorem ln_X4_294 : LnkS RX4 294 yX4_worthOfAll cX4_worthOfAll 3 (some .int) 1 := ⟨⟨GW_of 435 (by decide +kernel) (by decide +kernel), gw_303, gw_57, gw_304⟩, by decide, ⟨by decide, by decide, by decide +kernel⟩⟩
theorem gw_439 : Cond.code yX4_stow cX4_stow 6 (some .int) ∈ GW := GW_of 439 (by decide +kernel) (by decide +kernel)
theorem gw_437 : Cond.instanceMethod yX4_stow ∈ GW := GW_of 437 (by decide +kernel) (by decide +kernel)
theorem gw_438 : Cond.selects yX4_stow.cls yX4_stow yX4_stow ∈ GW := GW_of 438 (by decide +kernel) (by decide +kernel)
theorem ln_L_62 : LnkV RL 62 yX4_stow cX4_stow 6 (some .int) 4 := ⟨⟨GW_of 436 (by decide +kernel) (by decide +kernel), gw_437, gw_438, gw_57, gw_439⟩, by decide, ⟨by decide, by decide, by decide +kernel⟩⟩
theorem gw_59 : Cond.initialized yX2_choose.cls ∈ GW := GW_of 59 (by decide +kernel) (by decide +kernel)
theorem gw_443 : Cond.code yX2_choose cX2_choose 6 none ∈ GW := GW_of 443 (by decide +kernel) (by decide +kernel)
theorem gw_441 : Cond.instanceMethod yX2_choose ∈ GW := GW_of 441 (by decide +kernel) (by decide +kernel)
theorem gw_442 : Cond.selects yX2_choose.cls yX2_choose yX2_choose ∈ GW := GW_of 442 (by decide +kernel) (by decide +kernel)
theorem ln_X4_168 : LnkV RX4 168 yX2_choose cX2_choose 6 none 3 := ⟨⟨GW_of 440 (by decide +kernel) (by decide +kernel), gw_441, gw_442, gw_59, gw_443⟩, by decide, ⟨by decide, by decide, by decide +kernel⟩⟩
theorem kc_X2_23 : Cond.constant RX2 23 (2147483647 : Int32) ∈ GW := GW_of 444 (by decide +kernel) (by decide +kernel)
theorem ln_X2_31 : LnkS RX2 31 yM_min prog_9_method_69_code 2 (some .int) 2 := ⟨⟨GW_of 445 (by decide +kernel) (by decide +kernel), gw_433, gw_64, gw_434⟩, by decide, ⟨by decide, by decide, by decide +kernel⟩⟩
theorem gw_449 : Cond.code yX2_chooseRest cX2_chooseRest 5 none ∈ GW := GW_of 449 (by decide +kernel) (by decide +kernel)
theorem gw_448 : Cond.instanceMethod yX2_chooseRest ∈ GW := GW_of 448 (by decide +kernel) (by decide +kernel)
theorem gw_14 : Cond.selects yX2_chooseRest.cls yX2_chooseRest yX2_chooseRest ∈ GW := GW_of 14 (by decide +kernel) (by decide +kernel)
theorem ln_X2_37 : LnkV RX2 37 yX2_chooseRest cX2_chooseRest 5 none 3 := ⟨⟨GW_of 446 (by decide +kernel) (by decide +kernel), gw_448, gw_14, gw_59, gw_449⟩, by decide, ⟨by decide, by decide, by decide +kernel⟩⟩
theorem gw_453 : Cond.code yX2_weigh cX2_weigh 5 none ∈ GW := GW_of 453 (by decide +kernel) (by decide +kernel)
theorem gw_452 : Cond.instanceMethod yX2_weigh ∈ GW := GW_of 452 (by decide +kernel) (by decide +kernel)
theorem gw_15 : Cond.selects yX2_weigh.cls yX2_weigh yX2_weigh ∈ GW := GW_of 15 (by decide +kernel) (by decide +kernel)
theorem ln_X2_41 : LnkV RX2 41 yX2_weigh cX2_weigh 5 none 2 := ⟨⟨GW_of 450 (by decide +kernel) (by decide +kernel), gw_452, gw_15, gw_59, gw_453⟩, by decide, ⟨by decide, by decide, by decide +kernel⟩⟩
theorem ln_X2_45 : LnkN RX2 45 yX4_fillLosses RX4 cX4_fillLosses 6 none 4 := ⟨⟨by decide, gw_430, gw_57, gw_431⟩, by decide, ⟨by decide, by decide, by decide +kernel⟩⟩
theorem ln_X2_49 : LnkN RX2 49 yX4_worthOfAll RX4 cX4_worthOfAll 3 (some .int) 1 := ⟨⟨by decide, gw_303, gw_57, gw_304⟩, by decide, ⟨by decide, by decide, by decide +kernel⟩⟩
theorem gw_460 : Cond.code yX4_cover cX4_cover 5 (some .int) ∈ GW := GW_of 460 (by decide +kernel) (by decide +kernel)
theorem gw_458 : Cond.instanceMethod yX4_cover ∈ GW := GW_of 458 (by decide +kernel) (by decide +kernel)
theorem gw_459 : Cond.selects yX4_cover.cls yX4_cover yX4_cover ∈ GW := GW_of 459 (by decide +kernel) (by decide +kernel)
theorem ln_L_66 : LnkV RL 66 yX4_cover cX4_cover 5 (some .int) 0 := ⟨⟨GW_of 457 (by decide +kernel) (by decide +kernel), gw_458, gw_459, gw_57, gw_460⟩, by decide, ⟨by decide, by decide, by decide +kernel⟩⟩
theorem gw_464 : Cond.code yX4_reading cX4_reading 4 (some .int) ∈ GW := GW_of 464 (by decide +kernel) (by decide +kernel)
theorem gw_462 : Cond.instanceMethod yX4_reading ∈ GW := GW_of 462 (by decide +kernel) (by decide +kernel)
theorem gw_463 : Cond.selects yX4_reading.cls yX4_reading yX4_reading ∈ GW := GW_of 463 (by decide +kernel) (by decide +kernel)
theorem ln_L_71 : LnkV RL 71 yX4_reading cX4_reading 4 (some .int) 3 := ⟨⟨GW_of 461 (by decide +kernel) (by decide +kernel), gw_462, gw_463, gw_57, gw_464⟩, by decide, ⟨by decide, by decide, by decide +kernel⟩⟩
theorem gw_468 : Cond.code yX4_back cX4_back 2 (some .int) ∈ GW := GW_of 468 (by decide +kernel) (by decide +kernel)
theorem gw_466 : Cond.instanceMethod yX4_back ∈ GW := GW_of 466 (by decide +kernel) (by decide +kernel)
theorem gw_467 : Cond.selects yX4_back.cls yX4_back yX4_back ∈ GW := GW_of 467 (by decide +kernel) (by decide +kernel)
theorem ln_L_75 : LnkV RL 75 yX4_back cX4_back 2 (some .int) 1 := ⟨⟨GW_of 465 (by decide +kernel) (by decide +kernel), gw_466, gw_467, gw_57, gw_468⟩, by decide, ⟨by decide, by decide, by decide +kernel⟩⟩
theorem gw_472 : Cond.code yX4_strengths cX4_strengths 4 (some .int) ∈ GW := GW_of 472 (by decide +kernel) (by decide +kernel)
theorem gw_470 : Cond.instanceMethod yX4_strengths ∈ GW := GW_of 470 (by decide +kernel) (by decide +kernel)
theorem gw_471 : Cond.selects yX4_strengths.cls yX4_strengths yX4_strengths ∈ GW := GW_of 471 (by decide +kernel) (by decide +kernel)
theorem ln_L_79 : LnkV RL 79 yX4_strengths cX4_strengths 4 (some .int) 1 := ⟨⟨GW_of 469 (by decide +kernel) (by decide +kernel), gw_470, gw_471, gw_57, gw_472⟩, by decide, ⟨by decide, by decide, by decide +kernel⟩⟩
theorem ln_X4_184 : LnkS RX4 184 yX4_bearingOf cX4_bearingOf 2 (some .int) 2 := ⟨⟨GW_of 473 (by decide +kernel) (by decide +kernel), gw_292, gw_57, gw_293⟩, by decide, ⟨by decide, by decide, by decide +kernel⟩⟩
theorem gw_477 : Cond.code yX4_readingsAreSo cX4_readingsAreSo 6 (some .boolean) ∈ GW := GW_of 477 (by decide +kernel) (by decide +kernel)
theorem gw_476 : Cond.instanceMethod yX4_readingsAreSo ∈ GW := GW_of 476 (by decide +kernel) (by decide +kernel)
theorem gw_16 : Cond.selects yX4_readingsAreSo.cls yX4_readingsAreSo yX4_readingsAreSo ∈ GW := GW_of 16 (by decide +kernel) (by decide +kernel)
theorem ln_X4_188 : LnkV RX4 188 yX4_readingsAreSo cX4_readingsAreSo 6 (some .boolean) 2 := ⟨⟨GW_of 474 (by decide +kernel) (by decide +kernel), gw_476, gw_16, gw_57, gw_477⟩, by decide, ⟨by decide, by decide, by decide +kernel⟩⟩
theorem gw_481 : Cond.code yX4_kinds cX4_kinds 4 (some .int) ∈ GW := GW_of 481 (by decide +kernel) (by decide +kernel)
theorem gw_479 : Cond.instanceMethod yX4_kinds ∈ GW := GW_of 479 (by decide +kernel) (by decide +kernel)
theorem gw_480 : Cond.selects yX4_kinds.cls yX4_kinds yX4_kinds ∈ GW := GW_of 480 (by decide +kernel) (by decide +kernel)
theorem ln_L_83 : LnkV RL 83 yX4_kinds cX4_kinds 4 (some .int) 1 := ⟨⟨GW_of 478 (by decide +kernel) (by decide +kernel), gw_479, gw_480, gw_57, gw_481⟩, by decide, ⟨by decide, by decide, by decide +kernel⟩⟩
theorem gw_485 : Cond.code yX4_names cX4_names 12 (some .int) ∈ GW := GW_of 485 (by decide +kernel) (by decide +kernel)
theorem gw_483 : Cond.instanceMethod yX4_names ∈ GW := GW_of 483 (by decide +kernel) (by decide +kernel)
theorem gw_484 : Cond.selects yX4_names.cls yX4_names yX4_names ∈ GW := GW_of 484 (by decide +kernel) (by decide +kernel)
theorem ln_L_87 : LnkV RL 87 yX4_names cX4_names 12 (some .int) 5 := ⟨⟨GW_of 482 (by decide +kernel) (by decide +kernel), gw_483, gw_484, gw_57, gw_485⟩, by decide, ⟨by decide, by decide, by decide +kernel⟩⟩
theorem gw_489 : Cond.code yX0_standsAt cX0_standsAt 4 (some .boolean) ∈ GW := GW_of 489 (by decide +kernel) (by decide +kernel)
theorem gw_487 : Cond.instanceMethod yX0_standsAt ∈ GW := GW_of 487 (by decide +kernel) (by decide +kernel)
theorem gw_488 : Cond.selects yX0_standsAt.cls yX0_standsAt yX0_standsAt ∈ GW := GW_of 488 (by decide +kernel) (by decide +kernel)
theorem ln_X4_195 : LnkV RX4 195 yX0_standsAt cX0_standsAt 4 (some .boolean) 2 := ⟨⟨GW_of 486 (by decide +kernel) (by decide +kernel), gw_487, gw_488, gw_61, gw_489⟩, by decide, ⟨by decide, by decide, by decide +kernel⟩⟩
theorem gw_493 : Cond.code yX4_odds cX4_odds 6 (some .long) ∈ GW := GW_of 493 (by decide +kernel) (by decide +kernel)
theorem gw_491 : Cond.instanceMethod yX4_odds ∈ GW := GW_of 491 (by decide +kernel) (by decide +kernel)
theorem gw_492 : Cond.selects yX4_odds.cls yX4_odds yX4_odds ∈ GW := GW_of 492 (by decide +kernel) (by decide +kernel)
theorem ln_L_91 : LnkV RL 91 yX4_odds cX4_odds 6 (some .long) 3 := ⟨⟨GW_of 490 (by decide +kernel) (by decide +kernel), gw_491, gw_492, gw_57, gw_493⟩, by decide, ⟨by decide, by decide, by decide +kernel⟩⟩
theorem kc_X4_199 : Cond.constantLong RX4 199 (-9223372036854775808 : Int64) ∈ GW := GW_of 494 (by decide +kernel) (by decide +kernel)
theorem gw_498 : Cond.code yX4_roughPorts cX4_roughPorts 2 (some .int) ∈ GW := GW_of 498 (by decide +kernel) (by decide +kernel)
theorem gw_497 : Cond.instanceMethod yX4_roughPorts ∈ GW := GW_of 497 (by decide +kernel) (by decide +kernel)
theorem gw_17 : Cond.selects yX4_roughPorts.cls yX4_roughPorts yX4_roughPorts ∈ GW := GW_of 17 (by decide +kernel) (by decide +kernel)
theorem ln_X4_204 : LnkV RX4 204 yX4_roughPorts cX4_roughPorts 2 (some .int) 1 := ⟨⟨GW_of 495 (by decide +kernel) (by decide +kernel), gw_497, gw_17, gw_57, gw_498⟩, by decide, ⟨by decide, by decide, by decide +kernel⟩⟩
theorem gw_501 : Cond.code yX4_ofShare cX4_ofShare 4 (some .long) ∈ GW := GW_of 501 (by decide +kernel) (by decide +kernel)
theorem gw_500 : Cond.static yX4_ofShare ∈ GW := GW_of 500 (by decide +kernel) (by decide +kernel)
theorem ln_X4_207 : LnkS RX4 207 yX4_ofShare cX4_ofShare 4 (some .long) 3 := ⟨⟨GW_of 499 (by decide +kernel) (by decide +kernel), gw_500, gw_57, gw_501⟩, by decide, ⟨by decide, by decide, by decide +kernel⟩⟩
theorem gw_504 : Cond.code yX4_commonDivisor cX4_commonDivisor 3 (some .int) ∈ GW := GW_of 504 (by decide +kernel) (by decide +kernel)
theorem gw_503 : Cond.static yX4_commonDivisor ∈ GW := GW_of 503 (by decide +kernel) (by decide +kernel)
theorem ln_X4_329 : LnkS RX4 329 yX4_commonDivisor cX4_commonDivisor 3 (some .int) 2 := ⟨⟨GW_of 502 (by decide +kernel) (by decide +kernel), gw_503, gw_57, gw_504⟩, by decide, ⟨by decide, by decide, by decide +kernel⟩⟩
theorem gw_508 : Cond.code yX4_premium cX4_premium 6 (some .long) ∈ GW := GW_of 508 (by decide +kernel) (by decide +kernel)
theorem gw_506 : Cond.instanceMethod yX4_premium ∈ GW := GW_of 506 (by decide +kernel) (by decide +kernel)
theorem gw_507 : Cond.selects yX4_premium.cls yX4_premium yX4_premium ∈ GW := GW_of 507 (by decide +kernel) (by decide +kernel)
theorem ln_L_96 : LnkV RL 96 yX4_premium cX4_premium 6 (some .long) 2 := ⟨⟨GW_of 505 (by decide +kernel) (by decide +kernel), gw_506, gw_507, gw_57, gw_508⟩, by decide, ⟨by decide, by decide, by decide +kernel⟩⟩
theorem gw_512 : Cond.code yX4_sheet cX4_sheet 4 (some .int) ∈ GW := GW_of 512 (by decide +kernel) (by decide +kernel)
theorem gw_510 : Cond.instanceMethod yX4_sheet ∈ GW := GW_of 510 (by decide +kernel) (by decide +kernel)
theorem gw_511 : Cond.selects yX4_sheet.cls yX4_sheet yX4_sheet ∈ GW := GW_of 511 (by decide +kernel) (by decide +kernel)
theorem ln_L_101 : LnkV RL 101 yX4_sheet cX4_sheet 4 (some .int) 3 := ⟨⟨GW_of 509 (by decide +kernel) (by decide +kernel), gw_510, gw_511, gw_57, gw_512⟩, by decide, ⟨by decide, by decide, by decide +kernel⟩⟩
theorem gw_516 : Cond.code yX0_begin cX0_begin 4 none ∈ GW := GW_of 516 (by decide +kernel) (by decide +kernel)
theorem gw_514 : Cond.instanceMethod yX0_begin ∈ GW := GW_of 514 (by decide +kernel) (by decide +kernel)
theorem gw_515 : Cond.selects yX0_begin.cls yX0_begin yX0_begin ∈ GW := GW_of 515 (by decide +kernel) (by decide +kernel)
theorem ln_X4_214 : LnkV RX4 214 yX0_begin cX0_begin 4 none 2 := ⟨⟨GW_of 513 (by decide +kernel) (by decide +kernel), gw_514, gw_515, gw_61, gw_516⟩, by decide, ⟨by decide, by decide, by decide +kernel⟩⟩
theorem gw_520 : Cond.code yX4_lose cX4_lose 3 (some .int) ∈ GW := GW_of 520 (by decide +kernel) (by decide +kernel)
theorem gw_518 : Cond.instanceMethod yX4_lose ∈ GW := GW_of 518 (by decide +kernel) (by decide +kernel)
theorem gw_519 : Cond.selects yX4_lose.cls yX4_lose yX4_lose ∈ GW := GW_of 519 (by decide +kernel) (by decide +kernel)
theorem ln_L_105 : LnkV RL 105 yX4_lose cX4_lose 3 (some .int) 1 := ⟨⟨GW_of 517 (by decide +kernel) (by decide +kernel), gw_518, gw_519, gw_57, gw_520⟩, by decide, ⟨by decide, by decide, by decide +kernel⟩⟩
theorem gw_524 : Cond.code yX4_put cX4_put 5 (some .int) ∈ GW := GW_of 524 (by decide +kernel) (by decide +kernel)
theorem gw_522 : Cond.instanceMethod yX4_put ∈ GW := GW_of 522 (by decide +kernel) (by decide +kernel)
theorem gw_523 : Cond.selects yX4_put.cls yX4_put yX4_put ∈ GW := GW_of 523 (by decide +kernel) (by decide +kernel)
theorem ln_L_109 : LnkV RL 109 yX4_put cX4_put 5 (some .int) 3 := ⟨⟨GW_of 521 (by decide +kernel) (by decide +kernel), gw_522, gw_523, gw_57, gw_524⟩, by decide, ⟨by decide, by decide, by decide +kernel⟩⟩
theorem ln_X4_222 : LnkV RX4 222 yX0_reaches cX0_reaches 3 (some .boolean) 2 := ⟨⟨GW_of 525 (by decide +kernel) (by decide +kernel), gw_234, gw_235, gw_61, gw_236⟩, by decide, ⟨by decide, by decide, by decide +kernel⟩⟩
theorem gw_528 : Cond.code yX4_cutTo cX4_cutTo 2 (some .int) ∈ GW := GW_of 528 (by decide +kernel) (by decide +kernel)
theorem gw_527 : Cond.static yX4_cutTo ∈ GW := GW_of 527 (by decide +kernel) (by decide +kernel)
theorem ln_X4_231 : LnkS RX4 231 yX4_cutTo cX4_cutTo 2 (some .int) 2 := ⟨⟨GW_of 526 (by decide +kernel) (by decide +kernel), gw_527, gw_57, gw_528⟩, by decide, ⟨by decide, by decide, by decide +kernel⟩⟩
theorem gw_532 : Cond.code yX4_cell cX4_cell 5 (some .long) ∈ GW := GW_of 532 (by decide +kernel) (by decide +kernel)
theorem gw_530 : Cond.instanceMethod yX4_cell ∈ GW := GW_of 530 (by decide +kernel) (by decide +kernel)
theorem gw_531 : Cond.selects yX4_cell.cls yX4_cell yX4_cell ∈ GW := GW_of 531 (by decide +kernel) (by decide +kernel)
theorem ln_L_113 : LnkV RL 113 yX4_cell cX4_cell 5 (some .long) 3 := ⟨⟨GW_of 529 (by decide +kernel) (by decide +kernel), gw_530, gw_531, gw_57, gw_532⟩, by decide, ⟨by decide, by decide, by decide +kernel⟩⟩
theorem gw_536 : Cond.code yX4_copy cX4_copy 8 (some .int) ∈ GW := GW_of 536 (by decide +kernel) (by decide +kernel)
theorem gw_534 : Cond.instanceMethod yX4_copy ∈ GW := GW_of 534 (by decide +kernel) (by decide +kernel)
theorem gw_535 : Cond.selects yX4_copy.cls yX4_copy yX4_copy ∈ GW := GW_of 535 (by decide +kernel) (by decide +kernel)
theorem ln_L_117 : LnkV RL 117 yX4_copy cX4_copy 8 (some .int) 5 := ⟨⟨GW_of 533 (by decide +kernel) (by decide +kernel), gw_534, gw_535, gw_57, gw_536⟩, by decide, ⟨by decide, by decide, by decide +kernel⟩⟩
theorem gw_541 : Cond.code yX4_tell cX4_tell 3 (some .int) ∈ GW := GW_of 541 (by decide +kernel) (by decide +kernel)
theorem gw_539 : Cond.instanceMethod yX4_tell ∈ GW := GW_of 539 (by decide +kernel) (by decide +kernel)
theorem gw_540 : Cond.selects yX4_tell.cls yX4_tell yX4_tell ∈ GW := GW_of 540 (by decide +kernel) (by decide +kernel)
theorem ln_L_121 : LnkV RL 121 yX4_tell cX4_tell 3 (some .int) 1 := ⟨⟨GW_of 538 (by decide +kernel) (by decide +kernel), gw_539, gw_540, gw_57, gw_541⟩, by decide, ⟨by decide, by decide, by decide +kernel⟩⟩
theorem gw_545 : Cond.code yX4_tellSloop cX4_tellSloop 3 (some .int) ∈ GW := GW_of 545 (by decide +kernel) (by decide +kernel)
theorem gw_544 : Cond.instanceMethod yX4_tellSloop ∈ GW := GW_of 544 (by decide +kernel) (by decide +kernel)
theorem gw_18 : Cond.selects yX4_tellSloop.cls yX4_tellSloop yX4_tellSloop ∈ GW := GW_of 18 (by decide +kernel) (by decide +kernel)
theorem ln_X4_240 : LnkV RX4 240 yX4_tellSloop cX4_tellSloop 3 (some .int) 1 := ⟨⟨GW_of 542 (by decide +kernel) (by decide +kernel), gw_544, gw_18, gw_57, gw_545⟩, by decide, ⟨by decide, by decide, by decide +kernel⟩⟩
theorem gw_549 : Cond.code yX4_leave cX4_leave 2 none ∈ GW := GW_of 549 (by decide +kernel) (by decide +kernel)
theorem gw_548 : Cond.instanceMethod yX4_leave ∈ GW := GW_of 548 (by decide +kernel) (by decide +kernel)
theorem gw_19 : Cond.selects yX4_leave.cls yX4_leave yX4_leave ∈ GW := GW_of 19 (by decide +kernel) (by decide +kernel)
theorem ln_X4_332 : LnkV RX4 332 yX4_leave cX4_leave 2 none 1 := ⟨⟨GW_of 546 (by decide +kernel) (by decide +kernel), gw_548, gw_19, gw_57, gw_549⟩, by decide, ⟨by decide, by decide, by decide +kernel⟩⟩
theorem gw_553 : Cond.code yX4_tellCutter cX4_tellCutter 2 (some .int) ∈ GW := GW_of 553 (by decide +kernel) (by decide +kernel)
theorem gw_552 : Cond.instanceMethod yX4_tellCutter ∈ GW := GW_of 552 (by decide +kernel) (by decide +kernel)
theorem gw_20 : Cond.selects yX4_tellCutter.cls yX4_tellCutter yX4_tellCutter ∈ GW := GW_of 20 (by decide +kernel) (by decide +kernel)
theorem ln_X4_243 : LnkV RX4 243 yX4_tellCutter cX4_tellCutter 2 (some .int) 1 := ⟨⟨GW_of 550 (by decide +kernel) (by decide +kernel), gw_552, gw_20, gw_57, gw_553⟩, by decide, ⟨by decide, by decide, by decide +kernel⟩⟩
theorem gw_557 : Cond.code yX4_tellBarge cX4_tellBarge 2 (some .int) ∈ GW := GW_of 557 (by decide +kernel) (by decide +kernel)
theorem gw_556 : Cond.instanceMethod yX4_tellBarge ∈ GW := GW_of 556 (by decide +kernel) (by decide +kernel)
theorem gw_21 : Cond.selects yX4_tellBarge.cls yX4_tellBarge yX4_tellBarge ∈ GW := GW_of 21 (by decide +kernel) (by decide +kernel)
theorem ln_X4_246 : LnkV RX4 246 yX4_tellBarge cX4_tellBarge 2 (some .int) 1 := ⟨⟨GW_of 554 (by decide +kernel) (by decide +kernel), gw_556, gw_21, gw_57, gw_557⟩, by decide, ⟨by decide, by decide, by decide +kernel⟩⟩
theorem gw_561 : Cond.code yX4_hail cX4_hail 2 (some .int) ∈ GW := GW_of 561 (by decide +kernel) (by decide +kernel)
theorem gw_559 : Cond.instanceMethod yX4_hail ∈ GW := GW_of 559 (by decide +kernel) (by decide +kernel)
theorem gw_560 : Cond.selects yX4_hail.cls yX4_hail yX4_hail ∈ GW := GW_of 560 (by decide +kernel) (by decide +kernel)
theorem ln_L_125 : LnkV RL 125 yX4_hail cX4_hail 2 (some .int) 1 := ⟨⟨GW_of 558 (by decide +kernel) (by decide +kernel), gw_559, gw_560, gw_57, gw_561⟩, by decide, ⟨by decide, by decide, by decide +kernel⟩⟩
theorem gw_565 : Cond.code yX4_hailSloop cX4_hailSloop 1 (some .int) ∈ GW := GW_of 565 (by decide +kernel) (by decide +kernel)
theorem gw_564 : Cond.instanceMethod yX4_hailSloop ∈ GW := GW_of 564 (by decide +kernel) (by decide +kernel)
theorem gw_22 : Cond.selects yX4_hailSloop.cls yX4_hailSloop yX4_hailSloop ∈ GW := GW_of 22 (by decide +kernel) (by decide +kernel)
theorem ln_X4_249 : LnkV RX4 249 yX4_hailSloop cX4_hailSloop 1 (some .int) 0 := ⟨⟨GW_of 562 (by decide +kernel) (by decide +kernel), gw_564, gw_22, gw_57, gw_565⟩, by decide, ⟨by decide, by decide, by decide +kernel⟩⟩
theorem gw_569 : Cond.code yX4_hailLent cX4_hailLent 2 (some .int) ∈ GW := GW_of 569 (by decide +kernel) (by decide +kernel)
theorem gw_568 : Cond.instanceMethod yX4_hailLent ∈ GW := GW_of 568 (by decide +kernel) (by decide +kernel)
theorem gw_23 : Cond.selects yX4_hailLent.cls yX4_hailLent yX4_hailLent ∈ GW := GW_of 23 (by decide +kernel) (by decide +kernel)
theorem ln_X4_252 : LnkV RX4 252 yX4_hailLent cX4_hailLent 2 (some .int) 1 := ⟨⟨GW_of 566 (by decide +kernel) (by decide +kernel), gw_568, gw_23, gw_57, gw_569⟩, by decide, ⟨by decide, by decide, by decide +kernel⟩⟩
theorem gw_573 : Cond.code yX4_as cX4_as 3 (some .int) ∈ GW := GW_of 573 (by decide +kernel) (by decide +kernel)
theorem gw_571 : Cond.instanceMethod yX4_as ∈ GW := GW_of 571 (by decide +kernel) (by decide +kernel)
theorem gw_572 : Cond.selects yX4_as.cls yX4_as yX4_as ∈ GW := GW_of 572 (by decide +kernel) (by decide +kernel)
theorem ln_L_129 : LnkV RL 129 yX4_as cX4_as 3 (some .int) 2 := ⟨⟨GW_of 570 (by decide +kernel) (by decide +kernel), gw_571, gw_572, gw_57, gw_573⟩, by decide, ⟨by decide, by decide, by decide +kernel⟩⟩
theorem gw_577 : Cond.code yX4_trace cX4_trace 1 (some .int) ∈ GW := GW_of 577 (by decide +kernel) (by decide +kernel)
theorem gw_575 : Cond.instanceMethod yX4_trace ∈ GW := GW_of 575 (by decide +kernel) (by decide +kernel)
theorem gw_576 : Cond.selects yX4_trace.cls yX4_trace yX4_trace ∈ GW := GW_of 576 (by decide +kernel) (by decide +kernel)
theorem ln_L_133 : LnkV RL 133 yX4_trace cX4_trace 1 (some .int) 0 := ⟨⟨GW_of 574 (by decide +kernel) (by decide +kernel), gw_575, gw_576, gw_57, gw_577⟩, by decide, ⟨by decide, by decide, by decide +kernel⟩⟩
theorem gw_581 : Cond.code yX4_fault cX4_fault 1 (some .int) ∈ GW := GW_of 581 (by decide +kernel) (by decide +kernel)
theorem gw_579 : Cond.instanceMethod yX4_fault ∈ GW := GW_of 579 (by decide +kernel) (by decide +kernel)
theorem gw_580 : Cond.selects yX4_fault.cls yX4_fault yX4_fault ∈ GW := GW_of 580 (by decide +kernel) (by decide +kernel)
theorem ln_L_137 : LnkV RL 137 yX4_fault cX4_fault 1 (some .int) 0 := ⟨⟨GW_of 578 (by decide +kernel) (by decide +kernel), gw_579, gw_580, gw_57, gw_581⟩, by decide, ⟨by decide, by decide, by decide +kernel⟩⟩
theorem gw_585 : Cond.code yX4_many cX4_many 2 (some .int) ∈ GW := GW_of 585 (by decide +kernel) (by decide +kernel)
theorem gw_583 : Cond.instanceMethod yX4_many ∈ GW := GW_of 583 (by decide +kernel) (by decide +kernel)
theorem gw_584 : Cond.selects yX4_many.cls yX4_many yX4_many ∈ GW := GW_of 584 (by decide +kernel) (by decide +kernel)
theorem ln_L_141 : LnkV RL 141 yX4_many cX4_many 2 (some .int) 1 := ⟨⟨GW_of 582 (by decide +kernel) (by decide +kernel), gw_583, gw_584, gw_57, gw_585⟩, by decide, ⟨by decide, by decide, by decide +kernel⟩⟩
theorem gw_65 : Cond.initialized yM_bitCount.cls ∈ GW := GW_of 65 (by decide +kernel) (by decide +kernel)
theorem gw_588 : Cond.code yM_bitCount prog_8_method_49_code 1 (some .int) ∈ GW := GW_of 588 (by decide +kernel) (by decide +kernel)
theorem gw_587 : Cond.static yM_bitCount ∈ GW := GW_of 587 (by decide +kernel) (by decide +kernel)
theorem ln_X4_262 : LnkS RX4 262 yM_bitCount prog_8_method_49_code 1 (some .int) 1 := ⟨⟨GW_of 586 (by decide +kernel) (by decide +kernel), gw_587, gw_65, gw_588⟩, by decide, ⟨by decide, by decide, by decide +kernel⟩⟩
theorem kc_M_265 : Cond.constant "java/lang/Integer" 265 (1431655765 : Int32) ∈ GW := GW_of 589 (by decide +kernel) (by decide +kernel)
theorem kc_M_266 : Cond.constant "java/lang/Integer" 266 (858993459 : Int32) ∈ GW := GW_of 590 (by decide +kernel) (by decide +kernel)
theorem kc_M_267 : Cond.constant "java/lang/Integer" 267 (252645135 : Int32) ∈ GW := GW_of 591 (by decide +kernel) (by decide +kernel)
theorem fl_X5_61 : FL RX5 61 5 0 := ⟨(RX5, TX5, 31), rfl, by decide, GW_of 598 (by decide +kernel) (by decide +kernel)⟩
theorem fp_X5_61 : FP RX5 61 5 0 .int := ⟨(RX5, TX5, 31), rfl, by decide, GW_of 598 (by decide +kernel) (by decide +kernel), rfl, by decide +kernel⟩
theorem fl_X5_233 : FL RX5 233 5 1 := ⟨(RX5, TX5, 31), rfl, by decide, GW_of 599 (by decide +kernel) (by decide +kernel)⟩
theorem fp_X5_233 : FP RX5 233 5 1 .int := ⟨(RX5, TX5, 31), rfl, by decide, GW_of 599 (by decide +kernel) (by decide +kernel), rfl, by decide +kernel⟩
theorem fl_X5_9 : FL RX5 9 5 2 := ⟨(RX5, TX5, 31), rfl, by decide, GW_of 600 (by decide +kernel) (by decide +kernel)⟩
theorem fl_X5_13 : FL RX5 13 5 3 := ⟨(RX5, TX5, 31), rfl, by decide, GW_of 601 (by decide +kernel) (by decide +kernel)⟩
theorem fl_X5_16 : FL RX5 16 5 4 := ⟨(RX5, TX5, 31), rfl, by decide, GW_of 602 (by decide +kernel) (by decide +kernel)⟩
theorem fl_X5_74 : FL RX5 74 5 5 := ⟨(RX5, TX5, 31), rfl, by decide, GW_of 603 (by decide +kernel) (by decide +kernel)⟩
theorem fp_X5_74 : FP RX5 74 5 5 .int := ⟨(RX5, TX5, 31), rfl, by decide, GW_of 603 (by decide +kernel) (by decide +kernel), rfl, by decide +kernel⟩
theorem fl_X5_71 : FL RX5 71 5 6 := ⟨(RX5, TX5, 31), rfl, by decide, GW_of 604 (by decide +kernel) (by decide +kernel)⟩
theorem fp_X5_71 : FP RX5 71 5 6 .int := ⟨(RX5, TX5, 31), rfl, by decide, GW_of 604 (by decide +kernel) (by decide +kernel), rfl, by decide +kernel⟩
theorem fl_X5_107 : FL RX5 107 5 7 := ⟨(RX5, TX5, 31), rfl, by decide, GW_of 605 (by decide +kernel) (by decide +kernel)⟩
theorem fp_X5_107 : FP RX5 107 5 7 .int := ⟨(RX5, TX5, 31), rfl, by decide, GW_of 605 (by decide +kernel) (by decide +kernel), rfl, by decide +kernel⟩
theorem fl_X5_19 : FL RX5 19 5 8 := ⟨(RX5, TX5, 31), rfl, by decide, GW_of 606 (by decide +kernel) (by decide +kernel)⟩
theorem fl_X5_22 : FL RX5 22 5 9 := ⟨(RX5, TX5, 31), rfl, by decide, GW_of 607 (by decide +kernel) (by decide +kernel)⟩
theorem fl_X5_25 : FL RX5 25 5 10 := ⟨(RX5, TX5, 31), rfl, by decide, GW_of 608 (by decide +kernel) (by decide +kernel)⟩
theorem fl_X5_28 : FL RX5 28 5 11 := ⟨(RX5, TX5, 31), rfl, by decide, GW_of 609 (by decide +kernel) (by decide +kernel)⟩
theorem fl_X5_31 : FL RX5 31 5 12 := ⟨(RX5, TX5, 31), rfl, by decide, GW_of 610 (by decide +kernel) (by decide +kernel)⟩
theorem fl_X5_34 : FL RX5 34 5 13 := ⟨(RX5, TX5, 31), rfl, by decide, GW_of 611 (by decide +kernel) (by decide +kernel)⟩
theorem fl_X5_77 : FL RX5 77 5 14 := ⟨(RX5, TX5, 31), rfl, by decide, GW_of 612 (by decide +kernel) (by decide +kernel)⟩
theorem fp_X5_77 : FP RX5 77 5 14 .int := ⟨(RX5, TX5, 31), rfl, by decide, GW_of 612 (by decide +kernel) (by decide +kernel), rfl, by decide +kernel⟩
theorem fl_X5_101 : FL RX5 101 5 15 := ⟨(RX5, TX5, 31), rfl, by decide, GW_of 613 (by decide +kernel) (by decide +kernel)⟩
theorem fp_X5_101 : FP RX5 101 5 15 .int := ⟨(RX5, TX5, 31), rfl, by decide, GW_of 613 (by decide +kernel) (by decide +kernel), rfl, by decide +kernel⟩
theorem fl_X5_104 : FL RX5 104 5 16 := ⟨(RX5, TX5, 31), rfl, by decide, GW_of 614 (by decide +kernel) (by decide +kernel)⟩
theorem fp_X5_104 : FP RX5 104 5 16 .int := ⟨(RX5, TX5, 31), rfl, by decide, GW_of 614 (by decide +kernel) (by decide +kernel), rfl, by decide +kernel⟩
theorem fl_X5_37 : FL RX5 37 5 17 := ⟨(RX5, TX5, 31), rfl, by decide, GW_of 615 (by decide +kernel) (by decide +kernel)⟩
theorem fl_X5_40 : FL RX5 40 5 18 := ⟨(RX5, TX5, 31), rfl, by decide, GW_of 616 (by decide +kernel) (by decide +kernel)⟩
theorem fl_X5_43 : FL RX5 43 5 19 := ⟨(RX5, TX5, 31), rfl, by decide, GW_of 617 (by decide +kernel) (by decide +kernel)⟩
theorem fl_X5_46 : FL RX5 46 5 20 := ⟨(RX5, TX5, 31), rfl, by decide, GW_of 618 (by decide +kernel) (by decide +kernel)⟩
theorem fl_X5_157 : FL RX5 157 5 21 := ⟨(RX5, TX5, 31), rfl, by decide, GW_of 619 (by decide +kernel) (by decide +kernel)⟩
theorem fp_X5_157 : FP RX5 157 5 21 .int := ⟨(RX5, TX5, 31), rfl, by decide, GW_of 619 (by decide +kernel) (by decide +kernel), rfl, by decide +kernel⟩
theorem fl_X5_160 : FL RX5 160 5 22 := ⟨(RX5, TX5, 31), rfl, by decide, GW_of 620 (by decide +kernel) (by decide +kernel)⟩
theorem fp_X5_160 : FP RX5 160 5 22 .int := ⟨(RX5, TX5, 31), rfl, by decide, GW_of 620 (by decide +kernel) (by decide +kernel), rfl, by decide +kernel⟩
theorem fl_X5_163 : FL RX5 163 5 23 := ⟨(RX5, TX5, 31), rfl, by decide, GW_of 621 (by decide +kernel) (by decide +kernel)⟩
theorem fp_X5_163 : FP RX5 163 5 23 .int := ⟨(RX5, TX5, 31), rfl, by decide, GW_of 621 (by decide +kernel) (by decide +kernel), rfl, by decide +kernel⟩
theorem fl_X5_49 : FL RX5 49 5 24 := ⟨(RX5, TX5, 31), rfl, by decide, GW_of 622 (by decide +kernel) (by decide +kernel)⟩
theorem fl_X5_196 : FL RX5 196 5 25 := ⟨(RX5, TX5, 31), rfl, by decide, GW_of 623 (by decide +kernel) (by decide +kernel)⟩
theorem fp_X5_196 : FP RX5 196 5 25 .int := ⟨(RX5, TX5, 31), rfl, by decide, GW_of 623 (by decide +kernel) (by decide +kernel), rfl, by decide +kernel⟩
theorem fl_X5_199 : FL RX5 199 5 26 := ⟨(RX5, TX5, 31), rfl, by decide, GW_of 624 (by decide +kernel) (by decide +kernel)⟩
theorem fp_X5_199 : FP RX5 199 5 26 .int := ⟨(RX5, TX5, 31), rfl, by decide, GW_of 624 (by decide +kernel) (by decide +kernel), rfl, by decide +kernel⟩
theorem fl_X5_110 : FL RX5 110 5 27 := ⟨(RX5, TX5, 31), rfl, by decide, GW_of 625 (by decide +kernel) (by decide +kernel)⟩
theorem fp_X5_110 : FP RX5 110 5 27 .int := ⟨(RX5, TX5, 31), rfl, by decide, GW_of 625 (by decide +kernel) (by decide +kernel), rfl, by decide +kernel⟩
theorem fl_X5_52 : FL RX5 52 5 28 := ⟨(RX5, TX5, 31), rfl, by decide, GW_of 626 (by decide +kernel) (by decide +kernel)⟩
theorem fl_X5_55 : FL RX5 55 5 29 := ⟨(RX5, TX5, 31), rfl, by decide, GW_of 627 (by decide +kernel) (by decide +kernel)⟩
theorem fl_X5_58 : FL RX5 58 5 30 := ⟨(RX5, TX5, 31), rfl, by decide, GW_of 628 (by decide +kernel) (by decide +kernel)⟩
theorem gw_62 : Cond.initialized yX5_sea.cls ∈ GW := GW_of 62 (by decide +kernel) (by decide +kernel)
theorem gw_695 : Cond.code yX5_sea cX5_sea 7 (some .int) ∈ GW := GW_of 695 (by decide +kernel) (by decide +kernel)
theorem gw_693 : Cond.instanceMethod yX5_sea ∈ GW := GW_of 693 (by decide +kernel) (by decide +kernel)
theorem gw_694 : Cond.selects yX5_sea.cls yX5_sea yX5_sea ∈ GW := GW_of 694 (by decide +kernel) (by decide +kernel)
theorem ln_L_17 : LnkV RL 17 yX5_sea cX5_sea 7 (some .int) 4 := ⟨⟨GW_of 692 (by decide +kernel) (by decide +kernel), gw_693, gw_694, gw_62, gw_695⟩, by decide, ⟨by decide, by decide, by decide +kernel⟩⟩
theorem gw_698 : Cond.code yX5_isSheet cX5_isSheet 1 (some .boolean) ∈ GW := GW_of 698 (by decide +kernel) (by decide +kernel)
theorem gw_697 : Cond.static yX5_isSheet ∈ GW := GW_of 697 (by decide +kernel) (by decide +kernel)
theorem ln_X5_80 : LnkS RX5 80 yX5_isSheet cX5_isSheet 1 (some .boolean) 1 := ⟨⟨GW_of 696 (by decide +kernel) (by decide +kernel), gw_697, gw_62, gw_698⟩, by decide, ⟨by decide, by decide, by decide +kernel⟩⟩
theorem gw_701 : Cond.code yX5_within cX5_within 3 (some .boolean) ∈ GW := GW_of 701 (by decide +kernel) (by decide +kernel)
theorem gw_700 : Cond.static yX5_within ∈ GW := GW_of 700 (by decide +kernel) (by decide +kernel)
theorem ln_X5_67 : LnkS RX5 67 yX5_within cX5_within 3 (some .boolean) 3 := ⟨⟨GW_of 699 (by decide +kernel) (by decide +kernel), gw_700, gw_62, gw_701⟩, by decide, ⟨by decide, by decide, by decide +kernel⟩⟩
theorem gw_704 : Cond.code yX5_isSort cX5_isSort 1 (some .boolean) ∈ GW := GW_of 704 (by decide +kernel) (by decide +kernel)
theorem gw_703 : Cond.static yX5_isSort ∈ GW := GW_of 703 (by decide +kernel) (by decide +kernel)
theorem ln_X5_84 : LnkS RX5 84 yX5_isSort cX5_isSort 1 (some .boolean) 1 := ⟨⟨GW_of 702 (by decide +kernel) (by decide +kernel), gw_703, gw_62, gw_704⟩, by decide, ⟨by decide, by decide, by decide +kernel⟩⟩
theorem gw_708 : Cond.code yX5_against cX5_against 5 (some .int) ∈ GW := GW_of 708 (by decide +kernel) (by decide +kernel)
theorem gw_707 : Cond.instanceMethod yX5_against ∈ GW := GW_of 707 (by decide +kernel) (by decide +kernel)
theorem gw_24 : Cond.selects yX5_against.cls yX5_against yX5_against ∈ GW := GW_of 24 (by decide +kernel) (by decide +kernel)
theorem ln_X5_87 : LnkV RX5 87 yX5_against cX5_against 5 (some .int) 4 := ⟨⟨GW_of 705 (by decide +kernel) (by decide +kernel), gw_707, gw_24, gw_62, gw_708⟩, by decide, ⟨by decide, by decide, by decide +kernel⟩⟩
theorem gw_712 : Cond.code yX5_fails cX5_fails 2 (some .int) ∈ GW := GW_of 712 (by decide +kernel) (by decide +kernel)
theorem gw_711 : Cond.instanceMethod yX5_fails ∈ GW := GW_of 711 (by decide +kernel) (by decide +kernel)
theorem gw_25 : Cond.selects yX5_fails.cls yX5_fails yX5_fails ∈ GW := GW_of 25 (by decide +kernel) (by decide +kernel)
theorem ln_X5_91 : LnkV RX5 91 yX5_fails cX5_fails 2 (some .int) 1 := ⟨⟨GW_of 709 (by decide +kernel) (by decide +kernel), gw_711, gw_25, gw_62, gw_712⟩, by decide, ⟨by decide, by decide, by decide +kernel⟩⟩
theorem gw_716 : Cond.code yX5_readSea cX5_readSea 2 (some .boolean) ∈ GW := GW_of 716 (by decide +kernel) (by decide +kernel)
theorem gw_715 : Cond.instanceMethod yX5_readSea ∈ GW := GW_of 715 (by decide +kernel) (by decide +kernel)
theorem gw_26 : Cond.selects yX5_readSea.cls yX5_readSea yX5_readSea ∈ GW := GW_of 26 (by decide +kernel) (by decide +kernel)
theorem ln_X5_95 : LnkV RX5 95 yX5_readSea cX5_readSea 2 (some .boolean) 1 := ⟨⟨GW_of 713 (by decide +kernel) (by decide +kernel), gw_715, gw_26, gw_62, gw_716⟩, by decide, ⟨by decide, by decide, by decide +kernel⟩⟩
theorem gw_720 : Cond.code yX5_isSign cX5_isSign 3 (some .boolean) ∈ GW := GW_of 720 (by decide +kernel) (by decide +kernel)
theorem gw_719 : Cond.instanceMethod yX5_isSign ∈ GW := GW_of 719 (by decide +kernel) (by decide +kernel)
theorem gw_27 : Cond.selects yX5_isSign.cls yX5_isSign yX5_isSign ∈ GW := GW_of 27 (by decide +kernel) (by decide +kernel)
theorem ln_X5_113 : LnkV RX5 113 yX5_isSign cX5_isSign 3 (some .boolean) 2 := ⟨⟨GW_of 717 (by decide +kernel) (by decide +kernel), gw_719, gw_27, gw_62, gw_720⟩, by decide, ⟨by decide, by decide, by decide +kernel⟩⟩
theorem gw_724 : Cond.code yX5_readThePorts cX5_readThePorts 3 (some .boolean) ∈ GW := GW_of 724 (by decide +kernel) (by decide +kernel)
theorem gw_723 : Cond.instanceMethod yX5_readThePorts ∈ GW := GW_of 723 (by decide +kernel) (by decide +kernel)
theorem gw_28 : Cond.selects yX5_readThePorts.cls yX5_readThePorts yX5_readThePorts ∈ GW := GW_of 28 (by decide +kernel) (by decide +kernel)
theorem ln_X5_117 : LnkV RX5 117 yX5_readThePorts cX5_readThePorts 3 (some .boolean) 1 := ⟨⟨GW_of 721 (by decide +kernel) (by decide +kernel), gw_723, gw_28, gw_62, gw_724⟩, by decide, ⟨by decide, by decide, by decide +kernel⟩⟩
theorem gw_728 : Cond.code yX5_digit cX5_digit 4 (some .int) ∈ GW := GW_of 728 (by decide +kernel) (by decide +kernel)
theorem gw_727 : Cond.instanceMethod yX5_digit ∈ GW := GW_of 727 (by decide +kernel) (by decide +kernel)
theorem gw_29 : Cond.selects yX5_digit.cls yX5_digit yX5_digit ∈ GW := GW_of 29 (by decide +kernel) (by decide +kernel)
theorem ln_X5_123 : LnkV RX5 123 yX5_digit cX5_digit 4 (some .int) 3 := ⟨⟨GW_of 725 (by decide +kernel) (by decide +kernel), gw_727, gw_29, gw_62, gw_728⟩, by decide, ⟨by decide, by decide, by decide +kernel⟩⟩
theorem gw_732 : Cond.code yX5_readShip cX5_readShip 5 (some .boolean) ∈ GW := GW_of 732 (by decide +kernel) (by decide +kernel)
theorem gw_731 : Cond.instanceMethod yX5_readShip ∈ GW := GW_of 731 (by decide +kernel) (by decide +kernel)
theorem gw_30 : Cond.selects yX5_readShip.cls yX5_readShip yX5_readShip ∈ GW := GW_of 30 (by decide +kernel) (by decide +kernel)
theorem ln_X5_120 : LnkV RX5 120 yX5_readShip cX5_readShip 5 (some .boolean) 1 := ⟨⟨GW_of 729 (by decide +kernel) (by decide +kernel), gw_731, gw_30, gw_62, gw_732⟩, by decide, ⟨by decide, by decide, by decide +kernel⟩⟩
theorem gw_736 : Cond.code yX5_takeSea cX5_takeSea 3 none ∈ GW := GW_of 736 (by decide +kernel) (by decide +kernel)
theorem gw_735 : Cond.instanceMethod yX5_takeSea ∈ GW := GW_of 735 (by decide +kernel) (by decide +kernel)
theorem gw_31 : Cond.selects yX5_takeSea.cls yX5_takeSea yX5_takeSea ∈ GW := GW_of 31 (by decide +kernel) (by decide +kernel)
theorem ln_X5_98 : LnkV RX5 98 yX5_takeSea cX5_takeSea 3 none 0 := ⟨⟨GW_of 733 (by decide +kernel) (by decide +kernel), gw_735, gw_31, gw_62, gw_736⟩, by decide, ⟨by decide, by decide, by decide +kernel⟩⟩
theorem gw_740 : Cond.code yX5_ofShip cX5_ofShip 3 (some .int) ∈ GW := GW_of 740 (by decide +kernel) (by decide +kernel)
theorem gw_738 : Cond.instanceMethod yX5_ofShip ∈ GW := GW_of 738 (by decide +kernel) (by decide +kernel)
theorem gw_739 : Cond.selects yX5_ofShip.cls yX5_ofShip yX5_ofShip ∈ GW := GW_of 739 (by decide +kernel) (by decide +kernel)
theorem ln_L_22 : LnkV RL 22 yX5_ofShip cX5_ofShip 3 (some .int) 2 := ⟨⟨GW_of 737 (by decide +kernel) (by decide +kernel), gw_738, gw_739, gw_62, gw_740⟩, by decide, ⟨by decide, by decide, by decide +kernel⟩⟩
theorem gw_744 : Cond.code yX5_isShip cX5_isShip 2 (some .boolean) ∈ GW := GW_of 744 (by decide +kernel) (by decide +kernel)
theorem gw_743 : Cond.instanceMethod yX5_isShip ∈ GW := GW_of 743 (by decide +kernel) (by decide +kernel)
theorem gw_32 : Cond.selects yX5_isShip.cls yX5_isShip yX5_isShip ∈ GW := GW_of 32 (by decide +kernel) (by decide +kernel)
theorem ln_X5_127 : LnkV RX5 127 yX5_isShip cX5_isShip 2 (some .boolean) 1 := ⟨⟨GW_of 741 (by decide +kernel) (by decide +kernel), gw_743, gw_32, gw_62, gw_744⟩, by decide, ⟨by decide, by decide, by decide +kernel⟩⟩
theorem gw_748 : Cond.code yX5_bearsOf cX5_bearsOf 2 (some .int) ∈ GW := GW_of 748 (by decide +kernel) (by decide +kernel)
theorem gw_747 : Cond.instanceMethod yX5_bearsOf ∈ GW := GW_of 747 (by decide +kernel) (by decide +kernel)
theorem gw_33 : Cond.selects yX5_bearsOf.cls yX5_bearsOf yX5_bearsOf ∈ GW := GW_of 33 (by decide +kernel) (by decide +kernel)
theorem ln_X5_130 : LnkV RX5 130 yX5_bearsOf cX5_bearsOf 2 (some .int) 1 := ⟨⟨GW_of 745 (by decide +kernel) (by decide +kernel), gw_747, gw_33, gw_62, gw_748⟩, by decide, ⟨by decide, by decide, by decide +kernel⟩⟩
theorem gw_752 : Cond.code yX5_isMet cX5_isMet 2 (some .boolean) ∈ GW := GW_of 752 (by decide +kernel) (by decide +kernel)
theorem gw_751 : Cond.instanceMethod yX5_isMet ∈ GW := GW_of 751 (by decide +kernel) (by decide +kernel)
theorem gw_34 : Cond.selects yX5_isMet.cls yX5_isMet yX5_isMet ∈ GW := GW_of 34 (by decide +kernel) (by decide +kernel)
theorem ln_X5_133 : LnkV RX5 133 yX5_isMet cX5_isMet 2 (some .boolean) 1 := ⟨⟨GW_of 749 (by decide +kernel) (by decide +kernel), gw_751, gw_34, gw_62, gw_752⟩, by decide, ⟨by decide, by decide, by decide +kernel⟩⟩
theorem gw_756 : Cond.code yX5_worthOf cX5_worthOf 4 (some .int) ∈ GW := GW_of 756 (by decide +kernel) (by decide +kernel)
theorem gw_755 : Cond.instanceMethod yX5_worthOf ∈ GW := GW_of 755 (by decide +kernel) (by decide +kernel)
theorem gw_35 : Cond.selects yX5_worthOf.cls yX5_worthOf yX5_worthOf ∈ GW := GW_of 35 (by decide +kernel) (by decide +kernel)
theorem ln_X5_136 : LnkV RX5 136 yX5_worthOf cX5_worthOf 4 (some .int) 1 := ⟨⟨GW_of 753 (by decide +kernel) (by decide +kernel), gw_755, gw_35, gw_62, gw_756⟩, by decide, ⟨by decide, by decide, by decide +kernel⟩⟩
theorem gw_760 : Cond.code yX5_piecesOf cX5_piecesOf 4 (some .int) ∈ GW := GW_of 760 (by decide +kernel) (by decide +kernel)
theorem gw_759 : Cond.instanceMethod yX5_piecesOf ∈ GW := GW_of 759 (by decide +kernel) (by decide +kernel)
theorem gw_36 : Cond.selects yX5_piecesOf.cls yX5_piecesOf yX5_piecesOf ∈ GW := GW_of 36 (by decide +kernel) (by decide +kernel)
theorem ln_X5_139 : LnkV RX5 139 yX5_piecesOf cX5_piecesOf 4 (some .int) 1 := ⟨⟨GW_of 757 (by decide +kernel) (by decide +kernel), gw_759, gw_36, gw_62, gw_760⟩, by decide, ⟨by decide, by decide, by decide +kernel⟩⟩
theorem gw_764 : Cond.code yX5_rough cX5_rough 2 (some .int) ∈ GW := GW_of 764 (by decide +kernel) (by decide +kernel)
theorem gw_762 : Cond.instanceMethod yX5_rough ∈ GW := GW_of 762 (by decide +kernel) (by decide +kernel)
theorem gw_763 : Cond.selects yX5_rough.cls yX5_rough yX5_rough ∈ GW := GW_of 763 (by decide +kernel) (by decide +kernel)
theorem ln_L_27 : LnkV RL 27 yX5_rough cX5_rough 2 (some .int) 1 := ⟨⟨GW_of 761 (by decide +kernel) (by decide +kernel), gw_762, gw_763, gw_62, gw_764⟩, by decide, ⟨by decide, by decide, by decide +kernel⟩⟩
theorem gw_768 : Cond.code yX5_isPort cX5_isPort 2 (some .boolean) ∈ GW := GW_of 768 (by decide +kernel) (by decide +kernel)
theorem gw_767 : Cond.instanceMethod yX5_isPort ∈ GW := GW_of 767 (by decide +kernel) (by decide +kernel)
theorem gw_37 : Cond.selects yX5_isPort.cls yX5_isPort yX5_isPort ∈ GW := GW_of 37 (by decide +kernel) (by decide +kernel)
theorem ln_X5_142 : LnkV RX5 142 yX5_isPort cX5_isPort 2 (some .boolean) 1 := ⟨⟨GW_of 765 (by decide +kernel) (by decide +kernel), gw_767, gw_37, gw_62, gw_768⟩, by decide, ⟨by decide, by decide, by decide +kernel⟩⟩
theorem gw_772 : Cond.code yX5_blow cX5_blow 4 (some .int) ∈ GW := GW_of 772 (by decide +kernel) (by decide +kernel)
theorem gw_770 : Cond.instanceMethod yX5_blow ∈ GW := GW_of 770 (by decide +kernel) (by decide +kernel)
theorem gw_771 : Cond.selects yX5_blow.cls yX5_blow yX5_blow ∈ GW := GW_of 771 (by decide +kernel) (by decide +kernel)
theorem ln_L_31 : LnkV RL 31 yX5_blow cX5_blow 4 (some .int) 2 := ⟨⟨GW_of 769 (by decide +kernel) (by decide +kernel), gw_770, gw_771, gw_62, gw_772⟩, by decide, ⟨by decide, by decide, by decide +kernel⟩⟩
theorem gw_775 : Cond.code yX5_isDigit cX5_isDigit 1 (some .boolean) ∈ GW := GW_of 775 (by decide +kernel) (by decide +kernel)
theorem gw_774 : Cond.static yX5_isDigit ∈ GW := GW_of 774 (by decide +kernel) (by decide +kernel)
theorem ln_X5_145 : LnkS RX5 145 yX5_isDigit cX5_isDigit 1 (some .boolean) 1 := ⟨⟨GW_of 773 (by decide +kernel) (by decide +kernel), gw_774, gw_62, gw_775⟩, by decide, ⟨by decide, by decide, by decide +kernel⟩⟩
theorem gw_779 : Cond.code yX5_name cX5_name 4 (some .int) ∈ GW := GW_of 779 (by decide +kernel) (by decide +kernel)
theorem gw_777 : Cond.instanceMethod yX5_name ∈ GW := GW_of 777 (by decide +kernel) (by decide +kernel)
theorem gw_778 : Cond.selects yX5_name.cls yX5_name yX5_name ∈ GW := GW_of 778 (by decide +kernel) (by decide +kernel)
theorem ln_L_35 : LnkV RL 35 yX5_name cX5_name 4 (some .int) 2 := ⟨⟨GW_of 776 (by decide +kernel) (by decide +kernel), gw_777, gw_778, gw_62, gw_779⟩, by decide, ⟨by decide, by decide, by decide +kernel⟩⟩
theorem gw_782 : Cond.code yX5_isGood cX5_isGood 1 (some .boolean) ∈ GW := GW_of 782 (by decide +kernel) (by decide +kernel)
theorem gw_781 : Cond.static yX5_isGood ∈ GW := GW_of 781 (by decide +kernel) (by decide +kernel)
theorem ln_X5_148 : LnkS RX5 148 yX5_isGood cX5_isGood 1 (some .boolean) 1 := ⟨⟨GW_of 780 (by decide +kernel) (by decide +kernel), gw_781, gw_62, gw_782⟩, by decide, ⟨by decide, by decide, by decide +kernel⟩⟩
theorem gw_786 : Cond.code yX5_days cX5_days 5 (some .int) ∈ GW := GW_of 786 (by decide +kernel) (by decide +kernel)
theorem gw_784 : Cond.instanceMethod yX5_days ∈ GW := GW_of 784 (by decide +kernel) (by decide +kernel)
theorem gw_785 : Cond.selects yX5_days.cls yX5_days yX5_days ∈ GW := GW_of 785 (by decide +kernel) (by decide +kernel)
theorem ln_L_39 : LnkV RL 39 yX5_days cX5_days 5 (some .int) 1 := ⟨⟨GW_of 783 (by decide +kernel) (by decide +kernel), gw_784, gw_785, gw_62, gw_786⟩, by decide, ⟨by decide, by decide, by decide +kernel⟩⟩
theorem gw_790 : Cond.code yX5_goesOn cX5_goesOn 3 (some .int) ∈ GW := GW_of 790 (by decide +kernel) (by decide +kernel)
theorem gw_789 : Cond.instanceMethod yX5_goesOn ∈ GW := GW_of 789 (by decide +kernel) (by decide +kernel)
theorem gw_38 : Cond.selects yX5_goesOn.cls yX5_goesOn yX5_goesOn ∈ GW := GW_of 38 (by decide +kernel) (by decide +kernel)
theorem ln_X5_154 : LnkV RX5 154 yX5_goesOn cX5_goesOn 3 (some .int) 1 := ⟨⟨GW_of 787 (by decide +kernel) (by decide +kernel), gw_789, gw_38, gw_62, gw_790⟩, by decide, ⟨by decide, by decide, by decide +kernel⟩⟩
theorem gw_794 : Cond.code yX5_wouldLose cX5_wouldLose 3 (some .int) ∈ GW := GW_of 794 (by decide +kernel) (by decide +kernel)
theorem gw_793 : Cond.instanceMethod yX5_wouldLose ∈ GW := GW_of 793 (by decide +kernel) (by decide +kernel)
theorem gw_39 : Cond.selects yX5_wouldLose.cls yX5_wouldLose yX5_wouldLose ∈ GW := GW_of 39 (by decide +kernel) (by decide +kernel)
theorem ln_X5_151 : LnkV RX5 151 yX5_wouldLose cX5_wouldLose 3 (some .int) 1 := ⟨⟨GW_of 791 (by decide +kernel) (by decide +kernel), gw_793, gw_39, gw_62, gw_794⟩, by decide, ⟨by decide, by decide, by decide +kernel⟩⟩
theorem gw_798 : Cond.code yX5_load cX5_load 4 (some .int) ∈ GW := GW_of 798 (by decide +kernel) (by decide +kernel)
theorem gw_796 : Cond.instanceMethod yX5_load ∈ GW := GW_of 796 (by decide +kernel) (by decide +kernel)
theorem gw_797 : Cond.selects yX5_load.cls yX5_load yX5_load ∈ GW := GW_of 797 (by decide +kernel) (by decide +kernel)
theorem ln_L_44 : LnkV RL 44 yX5_load cX5_load 4 (some .int) 3 := ⟨⟨GW_of 795 (by decide +kernel) (by decide +kernel), gw_796, gw_797, gw_62, gw_798⟩, by decide, ⟨by decide, by decide, by decide +kernel⟩⟩
theorem gw_802 : Cond.code yX5_off cX5_off 4 (some .int) ∈ GW := GW_of 802 (by decide +kernel) (by decide +kernel)
theorem gw_800 : Cond.instanceMethod yX5_off ∈ GW := GW_of 800 (by decide +kernel) (by decide +kernel)
theorem gw_801 : Cond.selects yX5_off.cls yX5_off yX5_off ∈ GW := GW_of 801 (by decide +kernel) (by decide +kernel)
theorem ln_L_48 : LnkV RL 48 yX5_off cX5_off 4 (some .int) 3 := ⟨⟨GW_of 799 (by decide +kernel) (by decide +kernel), gw_800, gw_801, gw_62, gw_802⟩, by decide, ⟨by decide, by decide, by decide +kernel⟩⟩
theorem gw_806 : Cond.code yX5_voyage cX5_voyage 10 (some .int) ∈ GW := GW_of 806 (by decide +kernel) (by decide +kernel)
theorem gw_804 : Cond.instanceMethod yX5_voyage ∈ GW := GW_of 804 (by decide +kernel) (by decide +kernel)
theorem gw_805 : Cond.selects yX5_voyage.cls yX5_voyage yX5_voyage ∈ GW := GW_of 805 (by decide +kernel) (by decide +kernel)
theorem ln_L_53 : LnkV RL 53 yX5_voyage cX5_voyage 10 (some .int) 5 := ⟨⟨GW_of 803 (by decide +kernel) (by decide +kernel), gw_804, gw_805, gw_62, gw_806⟩, by decide, ⟨by decide, by decide, by decide +kernel⟩⟩
theorem gw_810 : Cond.code yX5_refusesPair cX5_refusesPair 3 (some .int) ∈ GW := GW_of 810 (by decide +kernel) (by decide +kernel)
theorem gw_809 : Cond.instanceMethod yX5_refusesPair ∈ GW := GW_of 809 (by decide +kernel) (by decide +kernel)
theorem gw_40 : Cond.selects yX5_refusesPair.cls yX5_refusesPair yX5_refusesPair ∈ GW := GW_of 40 (by decide +kernel) (by decide +kernel)
theorem ln_X5_173 : LnkV RX5 173 yX5_refusesPair cX5_refusesPair 3 (some .int) 2 := ⟨⟨GW_of 807 (by decide +kernel) (by decide +kernel), gw_809, gw_40, gw_62, gw_810⟩, by decide, ⟨by decide, by decide, by decide +kernel⟩⟩
theorem gw_814 : Cond.code yX5_keep cX5_keep 2 none ∈ GW := GW_of 814 (by decide +kernel) (by decide +kernel)
theorem gw_813 : Cond.instanceMethod yX5_keep ∈ GW := GW_of 813 (by decide +kernel) (by decide +kernel)
theorem gw_41 : Cond.selects yX5_keep.cls yX5_keep yX5_keep ∈ GW := GW_of 41 (by decide +kernel) (by decide +kernel)
theorem ln_X5_177 : LnkV RX5 177 yX5_keep cX5_keep 2 none 0 := ⟨⟨GW_of 811 (by decide +kernel) (by decide +kernel), gw_813, gw_41, gw_62, gw_814⟩, by decide, ⟨by decide, by decide, by decide +kernel⟩⟩
theorem gw_818 : Cond.code yX5_goVoyage cX5_goVoyage 4 (some .int) ∈ GW := GW_of 818 (by decide +kernel) (by decide +kernel)
theorem gw_817 : Cond.instanceMethod yX5_goVoyage ∈ GW := GW_of 817 (by decide +kernel) (by decide +kernel)
theorem gw_42 : Cond.selects yX5_goVoyage.cls yX5_goVoyage yX5_goVoyage ∈ GW := GW_of 42 (by decide +kernel) (by decide +kernel)
theorem ln_X5_180 : LnkV RX5 180 yX5_goVoyage cX5_goVoyage 4 (some .int) 2 := ⟨⟨GW_of 815 (by decide +kernel) (by decide +kernel), gw_817, gw_42, gw_62, gw_818⟩, by decide, ⟨by decide, by decide, by decide +kernel⟩⟩
theorem gw_822 : Cond.code yX5_does cX5_does 5 (some .boolean) ∈ GW := GW_of 822 (by decide +kernel) (by decide +kernel)
theorem gw_821 : Cond.instanceMethod yX5_does ∈ GW := GW_of 821 (by decide +kernel) (by decide +kernel)
theorem gw_43 : Cond.selects yX5_does.cls yX5_does yX5_does ∈ GW := GW_of 43 (by decide +kernel) (by decide +kernel)
theorem ln_X5_170 : LnkV RX5 170 yX5_does cX5_does 5 (some .boolean) 2 := ⟨⟨GW_of 819 (by decide +kernel) (by decide +kernel), gw_821, gw_43, gw_62, gw_822⟩, by decide, ⟨by decide, by decide, by decide +kernel⟩⟩
theorem gw_826 : Cond.code yX5_noteLoss cX5_noteLoss 3 none ∈ GW := GW_of 826 (by decide +kernel) (by decide +kernel)
theorem gw_825 : Cond.instanceMethod yX5_noteLoss ∈ GW := GW_of 825 (by decide +kernel) (by decide +kernel)
theorem gw_44 : Cond.selects yX5_noteLoss.cls yX5_noteLoss yX5_noteLoss ∈ GW := GW_of 44 (by decide +kernel) (by decide +kernel)
theorem ln_X5_166 : LnkV RX5 166 yX5_noteLoss cX5_noteLoss 3 none 2 := ⟨⟨GW_of 823 (by decide +kernel) (by decide +kernel), gw_825, gw_44, gw_62, gw_826⟩, by decide, ⟨by decide, by decide, by decide +kernel⟩⟩
theorem gw_830 : Cond.code yX5_tellVoyage cX5_tellVoyage 2 (some .int) ∈ GW := GW_of 830 (by decide +kernel) (by decide +kernel)
theorem gw_829 : Cond.instanceMethod yX5_tellVoyage ∈ GW := GW_of 829 (by decide +kernel) (by decide +kernel)
theorem gw_45 : Cond.selects yX5_tellVoyage.cls yX5_tellVoyage yX5_tellVoyage ∈ GW := GW_of 45 (by decide +kernel) (by decide +kernel)
theorem ln_X5_183 : LnkV RX5 183 yX5_tellVoyage cX5_tellVoyage 2 (some .int) 1 := ⟨⟨GW_of 827 (by decide +kernel) (by decide +kernel), gw_829, gw_45, gw_62, gw_830⟩, by decide, ⟨by decide, by decide, by decide +kernel⟩⟩
theorem gw_834 : Cond.code yX5_metNow cX5_metNow 3 (some .int) ∈ GW := GW_of 834 (by decide +kernel) (by decide +kernel)
theorem gw_833 : Cond.instanceMethod yX5_metNow ∈ GW := GW_of 833 (by decide +kernel) (by decide +kernel)
theorem gw_46 : Cond.selects yX5_metNow.cls yX5_metNow yX5_metNow ∈ GW := GW_of 46 (by decide +kernel) (by decide +kernel)
theorem ln_X5_189 : LnkV RX5 189 yX5_metNow cX5_metNow 3 (some .int) 0 := ⟨⟨GW_of 831 (by decide +kernel) (by decide +kernel), gw_833, gw_46, gw_62, gw_834⟩, by decide, ⟨by decide, by decide, by decide +kernel⟩⟩
theorem gw_838 : Cond.code yX5_putBack cX5_putBack 2 none ∈ GW := GW_of 838 (by decide +kernel) (by decide +kernel)
theorem gw_837 : Cond.instanceMethod yX5_putBack ∈ GW := GW_of 837 (by decide +kernel) (by decide +kernel)
theorem gw_47 : Cond.selects yX5_putBack.cls yX5_putBack yX5_putBack ∈ GW := GW_of 47 (by decide +kernel) (by decide +kernel)
theorem ln_X5_186 : LnkV RX5 186 yX5_putBack cX5_putBack 2 none 0 := ⟨⟨GW_of 835 (by decide +kernel) (by decide +kernel), gw_837, gw_47, gw_62, gw_838⟩, by decide, ⟨by decide, by decide, by decide +kernel⟩⟩
theorem gw_842 : Cond.code yX5_keeps cX5_keeps 3 (some .int) ∈ GW := GW_of 842 (by decide +kernel) (by decide +kernel)
theorem gw_840 : Cond.instanceMethod yX5_keeps ∈ GW := GW_of 840 (by decide +kernel) (by decide +kernel)
theorem gw_841 : Cond.selects yX5_keeps.cls yX5_keeps yX5_keeps ∈ GW := GW_of 841 (by decide +kernel) (by decide +kernel)
theorem ln_L_57 : LnkV RL 57 yX5_keeps cX5_keeps 3 (some .int) 1 := ⟨⟨GW_of 839 (by decide +kernel) (by decide +kernel), gw_840, gw_841, gw_62, gw_842⟩, by decide, ⟨by decide, by decide, by decide +kernel⟩⟩
theorem gw_846 : Cond.code yX5_harbour cX5_harbour 8 (some .int) ∈ GW := GW_of 846 (by decide +kernel) (by decide +kernel)
theorem gw_844 : Cond.instanceMethod yX5_harbour ∈ GW := GW_of 844 (by decide +kernel) (by decide +kernel)
theorem gw_845 : Cond.selects yX5_harbour.cls yX5_harbour yX5_harbour ∈ GW := GW_of 845 (by decide +kernel) (by decide +kernel)
theorem ln_L_61 : LnkV RL 61 yX5_harbour cX5_harbour 8 (some .int) 3 := ⟨⟨GW_of 843 (by decide +kernel) (by decide +kernel), gw_844, gw_845, gw_62, gw_846⟩, by decide, ⟨by decide, by decide, by decide +kernel⟩⟩
theorem gw_850 : Cond.code yX5_losesIn cX5_losesIn 6 (some .int) ∈ GW := GW_of 850 (by decide +kernel) (by decide +kernel)
theorem gw_849 : Cond.instanceMethod yX5_losesIn ∈ GW := GW_of 849 (by decide +kernel) (by decide +kernel)
theorem gw_48 : Cond.selects yX5_losesIn.cls yX5_losesIn yX5_losesIn ∈ GW := GW_of 48 (by decide +kernel) (by decide +kernel)
theorem ln_X5_193 : LnkV RX5 193 yX5_losesIn cX5_losesIn 6 (some .int) 2 := ⟨⟨GW_of 847 (by decide +kernel) (by decide +kernel), gw_849, gw_48, gw_62, gw_850⟩, by decide, ⟨by decide, by decide, by decide +kernel⟩⟩
theorem gw_854 : Cond.code yX5_stow cX5_stow 6 (some .int) ∈ GW := GW_of 854 (by decide +kernel) (by decide +kernel)
theorem gw_852 : Cond.instanceMethod yX5_stow ∈ GW := GW_of 852 (by decide +kernel) (by decide +kernel)
theorem gw_853 : Cond.selects yX5_stow.cls yX5_stow yX5_stow ∈ GW := GW_of 853 (by decide +kernel) (by decide +kernel)
theorem ln_L_65 : LnkV RL 65 yX5_stow cX5_stow 6 (some .int) 4 := ⟨⟨GW_of 851 (by decide +kernel) (by decide +kernel), gw_852, gw_853, gw_62, gw_854⟩, by decide, ⟨by decide, by decide, by decide +kernel⟩⟩
theorem gw_857 : Cond.code yX5_digitSum cX5_digitSum 3 (some .int) ∈ GW := GW_of 857 (by decide +kernel) (by decide +kernel)
theorem gw_856 : Cond.static yX5_digitSum ∈ GW := GW_of 856 (by decide +kernel) (by decide +kernel)
theorem ln_X5_202 : LnkS RX5 202 yX5_digitSum cX5_digitSum 3 (some .int) 1 := ⟨⟨GW_of 855 (by decide +kernel) (by decide +kernel), gw_856, gw_62, gw_857⟩, by decide, ⟨by decide, by decide, by decide +kernel⟩⟩
theorem gw_861 : Cond.code yX5_tryStow cX5_tryStow 9 none ∈ GW := GW_of 861 (by decide +kernel) (by decide +kernel)
theorem gw_860 : Cond.instanceMethod yX5_tryStow ∈ GW := GW_of 860 (by decide +kernel) (by decide +kernel)
theorem gw_49 : Cond.selects yX5_tryStow.cls yX5_tryStow yX5_tryStow ∈ GW := GW_of 49 (by decide +kernel) (by decide +kernel)
theorem ln_X5_205 : LnkV RX5 205 yX5_tryStow cX5_tryStow 9 none 3 := ⟨⟨GW_of 858 (by decide +kernel) (by decide +kernel), gw_860, gw_49, gw_62, gw_861⟩, by decide, ⟨by decide, by decide, by decide +kernel⟩⟩
theorem gw_865 : Cond.code yX5_cover cX5_cover 4 (some .int) ∈ GW := GW_of 865 (by decide +kernel) (by decide +kernel)
theorem gw_863 : Cond.instanceMethod yX5_cover ∈ GW := GW_of 863 (by decide +kernel) (by decide +kernel)
theorem gw_864 : Cond.selects yX5_cover.cls yX5_cover yX5_cover ∈ GW := GW_of 864 (by decide +kernel) (by decide +kernel)
theorem ln_L_70 : LnkV RL 70 yX5_cover cX5_cover 4 (some .int) 0 := ⟨⟨GW_of 862 (by decide +kernel) (by decide +kernel), gw_863, gw_864, gw_62, gw_865⟩, by decide, ⟨by decide, by decide, by decide +kernel⟩⟩
theorem gw_869 : Cond.code yX5_namesOf cX5_namesOf 4 (some .int) ∈ GW := GW_of 869 (by decide +kernel) (by decide +kernel)
theorem gw_868 : Cond.instanceMethod yX5_namesOf ∈ GW := GW_of 868 (by decide +kernel) (by decide +kernel)
theorem gw_50 : Cond.selects yX5_namesOf.cls yX5_namesOf yX5_namesOf ∈ GW := GW_of 50 (by decide +kernel) (by decide +kernel)
theorem ln_X5_209 : LnkV RX5 209 yX5_namesOf cX5_namesOf 4 (some .int) 1 := ⟨⟨GW_of 866 (by decide +kernel) (by decide +kernel), gw_868, gw_50, gw_62, gw_869⟩, by decide, ⟨by decide, by decide, by decide +kernel⟩⟩
theorem gw_872 : Cond.code yX5_size cX5_size 3 (some .int) ∈ GW := GW_of 872 (by decide +kernel) (by decide +kernel)
theorem gw_871 : Cond.static yX5_size ∈ GW := GW_of 871 (by decide +kernel) (by decide +kernel)
theorem ln_X5_212 : LnkS RX5 212 yX5_size cX5_size 3 (some .int) 1 := ⟨⟨GW_of 870 (by decide +kernel) (by decide +kernel), gw_871, gw_62, gw_872⟩, by decide, ⟨by decide, by decide, by decide +kernel⟩⟩
theorem gw_876 : Cond.code yX5_reading cX5_reading 4 (some .int) ∈ GW := GW_of 876 (by decide +kernel) (by decide +kernel)
theorem gw_874 : Cond.instanceMethod yX5_reading ∈ GW := GW_of 874 (by decide +kernel) (by decide +kernel)
theorem gw_875 : Cond.selects yX5_reading.cls yX5_reading yX5_reading ∈ GW := GW_of 875 (by decide +kernel) (by decide +kernel)
theorem ln_L_74 : LnkV RL 74 yX5_reading cX5_reading 4 (some .int) 3 := ⟨⟨GW_of 873 (by decide +kernel) (by decide +kernel), gw_874, gw_875, gw_62, gw_876⟩, by decide, ⟨by decide, by decide, by decide +kernel⟩⟩
theorem gw_880 : Cond.code yX5_back cX5_back 2 (some .int) ∈ GW := GW_of 880 (by decide +kernel) (by decide +kernel)
theorem gw_878 : Cond.instanceMethod yX5_back ∈ GW := GW_of 878 (by decide +kernel) (by decide +kernel)
theorem gw_879 : Cond.selects yX5_back.cls yX5_back yX5_back ∈ GW := GW_of 879 (by decide +kernel) (by decide +kernel)
theorem ln_L_78 : LnkV RL 78 yX5_back cX5_back 2 (some .int) 1 := ⟨⟨GW_of 877 (by decide +kernel) (by decide +kernel), gw_878, gw_879, gw_62, gw_880⟩, by decide, ⟨by decide, by decide, by decide +kernel⟩⟩
theorem gw_884 : Cond.code yX5_strengths cX5_strengths 5 (some .int) ∈ GW := GW_of 884 (by decide +kernel) (by decide +kernel)
theorem gw_882 : Cond.instanceMethod yX5_strengths ∈ GW := GW_of 882 (by decide +kernel) (by decide +kernel)
theorem gw_883 : Cond.selects yX5_strengths.cls yX5_strengths yX5_strengths ∈ GW := GW_of 883 (by decide +kernel) (by decide +kernel)
theorem ln_L_82 : LnkV RL 82 yX5_strengths cX5_strengths 5 (some .int) 1 := ⟨⟨GW_of 881 (by decide +kernel) (by decide +kernel), gw_882, gw_883, gw_62, gw_884⟩, by decide, ⟨by decide, by decide, by decide +kernel⟩⟩
theorem gw_888 : Cond.code yX5_areSo cX5_areSo 3 (some .boolean) ∈ GW := GW_of 888 (by decide +kernel) (by decide +kernel)
theorem gw_887 : Cond.instanceMethod yX5_areSo ∈ GW := GW_of 887 (by decide +kernel) (by decide +kernel)
theorem gw_51 : Cond.selects yX5_areSo.cls yX5_areSo yX5_areSo ∈ GW := GW_of 51 (by decide +kernel) (by decide +kernel)
theorem ln_X5_215 : LnkV RX5 215 yX5_areSo cX5_areSo 3 (some .boolean) 0 := ⟨⟨GW_of 885 (by decide +kernel) (by decide +kernel), gw_887, gw_51, gw_62, gw_888⟩, by decide, ⟨by decide, by decide, by decide +kernel⟩⟩
theorem gw_892 : Cond.code yX5_kinds cX5_kinds 5 (some .int) ∈ GW := GW_of 892 (by decide +kernel) (by decide +kernel)
theorem gw_890 : Cond.instanceMethod yX5_kinds ∈ GW := GW_of 890 (by decide +kernel) (by decide +kernel)
theorem gw_891 : Cond.selects yX5_kinds.cls yX5_kinds yX5_kinds ∈ GW := GW_of 891 (by decide +kernel) (by decide +kernel)
theorem ln_L_86 : LnkV RL 86 yX5_kinds cX5_kinds 5 (some .int) 1 := ⟨⟨GW_of 889 (by decide +kernel) (by decide +kernel), gw_890, gw_891, gw_62, gw_892⟩, by decide, ⟨by decide, by decide, by decide +kernel⟩⟩
theorem gw_896 : Cond.code yX5_names cX5_names 10 (some .int) ∈ GW := GW_of 896 (by decide +kernel) (by decide +kernel)
theorem gw_894 : Cond.instanceMethod yX5_names ∈ GW := GW_of 894 (by decide +kernel) (by decide +kernel)
theorem gw_895 : Cond.selects yX5_names.cls yX5_names yX5_names ∈ GW := GW_of 895 (by decide +kernel) (by decide +kernel)
theorem ln_L_90 : LnkV RL 90 yX5_names cX5_names 10 (some .int) 5 := ⟨⟨GW_of 893 (by decide +kernel) (by decide +kernel), gw_894, gw_895, gw_62, gw_896⟩, by decide, ⟨by decide, by decide, by decide +kernel⟩⟩
theorem gw_900 : Cond.code yX5_isLossOf cX5_isLossOf 6 (some .boolean) ∈ GW := GW_of 900 (by decide +kernel) (by decide +kernel)
theorem gw_899 : Cond.instanceMethod yX5_isLossOf ∈ GW := GW_of 899 (by decide +kernel) (by decide +kernel)
theorem gw_52 : Cond.selects yX5_isLossOf.cls yX5_isLossOf yX5_isLossOf ∈ GW := GW_of 52 (by decide +kernel) (by decide +kernel)
theorem ln_X5_219 : LnkV RX5 219 yX5_isLossOf cX5_isLossOf 6 (some .boolean) 3 := ⟨⟨GW_of 897 (by decide +kernel) (by decide +kernel), gw_899, gw_52, gw_62, gw_900⟩, by decide, ⟨by decide, by decide, by decide +kernel⟩⟩
theorem gw_904 : Cond.code yX5_odds cX5_odds 4 (some .long) ∈ GW := GW_of 904 (by decide +kernel) (by decide +kernel)
theorem gw_902 : Cond.instanceMethod yX5_odds ∈ GW := GW_of 902 (by decide +kernel) (by decide +kernel)
theorem gw_903 : Cond.selects yX5_odds.cls yX5_odds yX5_odds ∈ GW := GW_of 903 (by decide +kernel) (by decide +kernel)
theorem ln_L_95 : LnkV RL 95 yX5_odds cX5_odds 4 (some .long) 3 := ⟨⟨GW_of 901 (by decide +kernel) (by decide +kernel), gw_902, gw_903, gw_62, gw_904⟩, by decide, ⟨by decide, by decide, by decide +kernel⟩⟩
theorem kc_X5_65 : Cond.constantLong RX5 65 (-9223372036854775808 : Int64) ∈ GW := GW_of 905 (by decide +kernel) (by decide +kernel)
theorem gw_909 : Cond.code yX5_tooRough cX5_tooRough 4 (some .int) ∈ GW := GW_of 909 (by decide +kernel) (by decide +kernel)
theorem gw_908 : Cond.instanceMethod yX5_tooRough ∈ GW := GW_of 908 (by decide +kernel) (by decide +kernel)
theorem gw_53 : Cond.selects yX5_tooRough.cls yX5_tooRough yX5_tooRough ∈ GW := GW_of 53 (by decide +kernel) (by decide +kernel)
theorem ln_X5_222 : LnkV RX5 222 yX5_tooRough cX5_tooRough 4 (some .int) 1 := ⟨⟨GW_of 906 (by decide +kernel) (by decide +kernel), gw_908, gw_53, gw_62, gw_909⟩, by decide, ⟨by decide, by decide, by decide +kernel⟩⟩
theorem gw_912 : Cond.code yX5_inLeastTerms cX5_inLeastTerms 11 (some .long) ∈ GW := GW_of 912 (by decide +kernel) (by decide +kernel)
theorem gw_911 : Cond.static yX5_inLeastTerms ∈ GW := GW_of 911 (by decide +kernel) (by decide +kernel)
theorem ln_X5_225 : LnkS RX5 225 yX5_inLeastTerms cX5_inLeastTerms 11 (some .long) 3 := ⟨⟨GW_of 910 (by decide +kernel) (by decide +kernel), gw_911, gw_62, gw_912⟩, by decide, ⟨by decide, by decide, by decide +kernel⟩⟩
theorem gw_916 : Cond.code yX5_premium cX5_premium 4 (some .long) ∈ GW := GW_of 916 (by decide +kernel) (by decide +kernel)
theorem gw_914 : Cond.instanceMethod yX5_premium ∈ GW := GW_of 914 (by decide +kernel) (by decide +kernel)
theorem gw_915 : Cond.selects yX5_premium.cls yX5_premium yX5_premium ∈ GW := GW_of 915 (by decide +kernel) (by decide +kernel)
theorem ln_L_100 : LnkV RL 100 yX5_premium cX5_premium 4 (some .long) 2 := ⟨⟨GW_of 913 (by decide +kernel) (by decide +kernel), gw_914, gw_915, gw_62, gw_916⟩, by decide, ⟨by decide, by decide, by decide +kernel⟩⟩
theorem gw_920 : Cond.code yX5_sheet cX5_sheet 5 (some .int) ∈ GW := GW_of 920 (by decide +kernel) (by decide +kernel)
theorem gw_918 : Cond.instanceMethod yX5_sheet ∈ GW := GW_of 918 (by decide +kernel) (by decide +kernel)
theorem gw_919 : Cond.selects yX5_sheet.cls yX5_sheet yX5_sheet ∈ GW := GW_of 919 (by decide +kernel) (by decide +kernel)
theorem ln_L_104 : LnkV RL 104 yX5_sheet cX5_sheet 5 (some .int) 3 := ⟨⟨GW_of 917 (by decide +kernel) (by decide +kernel), gw_918, gw_919, gw_62, gw_920⟩, by decide, ⟨by decide, by decide, by decide +kernel⟩⟩
theorem gw_924 : Cond.code yX5_lose cX5_lose 3 (some .int) ∈ GW := GW_of 924 (by decide +kernel) (by decide +kernel)
theorem gw_922 : Cond.instanceMethod yX5_lose ∈ GW := GW_of 922 (by decide +kernel) (by decide +kernel)
theorem gw_923 : Cond.selects yX5_lose.cls yX5_lose yX5_lose ∈ GW := GW_of 923 (by decide +kernel) (by decide +kernel)
theorem ln_L_108 : LnkV RL 108 yX5_lose cX5_lose 3 (some .int) 1 := ⟨⟨GW_of 921 (by decide +kernel) (by decide +kernel), gw_922, gw_923, gw_62, gw_924⟩, by decide, ⟨by decide, by decide, by decide +kernel⟩⟩
theorem gw_928 : Cond.code yX5_put cX5_put 4 (some .int) ∈ GW := GW_of 928 (by decide +kernel) (by decide +kernel)
theorem gw_926 : Cond.instanceMethod yX5_put ∈ GW := GW_of 926 (by decide +kernel) (by decide +kernel)
theorem gw_927 : Cond.selects yX5_put.cls yX5_put yX5_put ∈ GW := GW_of 927 (by decide +kernel) (by decide +kernel)
theorem ln_L_112 : LnkV RL 112 yX5_put cX5_put 4 (some .int) 3 := ⟨⟨GW_of 925 (by decide +kernel) (by decide +kernel), gw_926, gw_927, gw_62, gw_928⟩, by decide, ⟨by decide, by decide, by decide +kernel⟩⟩
theorem gw_932 : Cond.code yX5_cell cX5_cell 4 (some .long) ∈ GW := GW_of 932 (by decide +kernel) (by decide +kernel)
theorem gw_930 : Cond.instanceMethod yX5_cell ∈ GW := GW_of 930 (by decide +kernel) (by decide +kernel)
theorem gw_931 : Cond.selects yX5_cell.cls yX5_cell yX5_cell ∈ GW := GW_of 931 (by decide +kernel) (by decide +kernel)
theorem ln_L_116 : LnkV RL 116 yX5_cell cX5_cell 4 (some .long) 3 := ⟨⟨GW_of 929 (by decide +kernel) (by decide +kernel), gw_930, gw_931, gw_62, gw_932⟩, by decide, ⟨by decide, by decide, by decide +kernel⟩⟩
theorem gw_936 : Cond.code yX5_lost cX5_lost 2 (some .long) ∈ GW := GW_of 936 (by decide +kernel) (by decide +kernel)
theorem gw_935 : Cond.instanceMethod yX5_lost ∈ GW := GW_of 935 (by decide +kernel) (by decide +kernel)
theorem gw_54 : Cond.selects yX5_lost.cls yX5_lost yX5_lost ∈ GW := GW_of 54 (by decide +kernel) (by decide +kernel)
theorem ln_X5_229 : LnkV RX5 229 yX5_lost cX5_lost 2 (some .long) 1 := ⟨⟨GW_of 933 (by decide +kernel) (by decide +kernel), gw_935, gw_54, gw_62, gw_936⟩, by decide, ⟨by decide, by decide, by decide +kernel⟩⟩
theorem gw_940 : Cond.code yX5_copy cX5_copy 10 (some .int) ∈ GW := GW_of 940 (by decide +kernel) (by decide +kernel)
theorem gw_938 : Cond.instanceMethod yX5_copy ∈ GW := GW_of 938 (by decide +kernel) (by decide +kernel)
theorem gw_939 : Cond.selects yX5_copy.cls yX5_copy yX5_copy ∈ GW := GW_of 939 (by decide +kernel) (by decide +kernel)
theorem ln_L_120 : LnkV RL 120 yX5_copy cX5_copy 10 (some .int) 5 := ⟨⟨GW_of 937 (by decide +kernel) (by decide +kernel), gw_938, gw_939, gw_62, gw_940⟩, by decide, ⟨by decide, by decide, by decide +kernel⟩⟩
theorem gw_944 : Cond.code yX5_tell cX5_tell 3 (some .int) ∈ GW := GW_of 944 (by decide +kernel) (by decide +kernel)
theorem gw_942 : Cond.instanceMethod yX5_tell ∈ GW := GW_of 942 (by decide +kernel) (by decide +kernel)
theorem gw_943 : Cond.selects yX5_tell.cls yX5_tell yX5_tell ∈ GW := GW_of 943 (by decide +kernel) (by decide +kernel)
theorem ln_L_124 : LnkV RL 124 yX5_tell cX5_tell 3 (some .int) 1 := ⟨⟨GW_of 941 (by decide +kernel) (by decide +kernel), gw_942, gw_943, gw_62, gw_944⟩, by decide, ⟨by decide, by decide, by decide +kernel⟩⟩
theorem gw_948 : Cond.code yX5_begins cX5_begins 2 none ∈ GW := GW_of 948 (by decide +kernel) (by decide +kernel)
theorem gw_947 : Cond.instanceMethod yX5_begins ∈ GW := GW_of 947 (by decide +kernel) (by decide +kernel)
theorem gw_55 : Cond.selects yX5_begins.cls yX5_begins yX5_begins ∈ GW := GW_of 55 (by decide +kernel) (by decide +kernel)
theorem ln_X5_236 : LnkV RX5 236 yX5_begins cX5_begins 2 none 1 := ⟨⟨GW_of 945 (by decide +kernel) (by decide +kernel), gw_947, gw_55, gw_62, gw_948⟩, by decide, ⟨by decide, by decide, by decide +kernel⟩⟩
theorem gw_952 : Cond.code yX5_hail cX5_hail 2 (some .int) ∈ GW := GW_of 952 (by decide +kernel) (by decide +kernel)
theorem gw_950 : Cond.instanceMethod yX5_hail ∈ GW := GW_of 950 (by decide +kernel) (by decide +kernel)
theorem gw_951 : Cond.selects yX5_hail.cls yX5_hail yX5_hail ∈ GW := GW_of 951 (by decide +kernel) (by decide +kernel)
theorem ln_L_128 : LnkV RL 128 yX5_hail cX5_hail 2 (some .int) 1 := ⟨⟨GW_of 949 (by decide +kernel) (by decide +kernel), gw_950, gw_951, gw_62, gw_952⟩, by decide, ⟨by decide, by decide, by decide +kernel⟩⟩
theorem gw_956 : Cond.code yX5_as cX5_as 3 (some .int) ∈ GW := GW_of 956 (by decide +kernel) (by decide +kernel)
theorem gw_954 : Cond.instanceMethod yX5_as ∈ GW := GW_of 954 (by decide +kernel) (by decide +kernel)
theorem gw_955 : Cond.selects yX5_as.cls yX5_as yX5_as ∈ GW := GW_of 955 (by decide +kernel) (by decide +kernel)
theorem ln_L_132 : LnkV RL 132 yX5_as cX5_as 3 (some .int) 2 := ⟨⟨GW_of 953 (by decide +kernel) (by decide +kernel), gw_954, gw_955, gw_62, gw_956⟩, by decide, ⟨by decide, by decide, by decide +kernel⟩⟩
theorem gw_960 : Cond.code yX5_trace cX5_trace 1 (some .int) ∈ GW := GW_of 960 (by decide +kernel) (by decide +kernel)
theorem gw_958 : Cond.instanceMethod yX5_trace ∈ GW := GW_of 958 (by decide +kernel) (by decide +kernel)
theorem gw_959 : Cond.selects yX5_trace.cls yX5_trace yX5_trace ∈ GW := GW_of 959 (by decide +kernel) (by decide +kernel)
theorem ln_L_136 : LnkV RL 136 yX5_trace cX5_trace 1 (some .int) 0 := ⟨⟨GW_of 957 (by decide +kernel) (by decide +kernel), gw_958, gw_959, gw_62, gw_960⟩, by decide, ⟨by decide, by decide, by decide +kernel⟩⟩
theorem gw_964 : Cond.code yX5_fault cX5_fault 1 (some .int) ∈ GW := GW_of 964 (by decide +kernel) (by decide +kernel)
theorem gw_962 : Cond.instanceMethod yX5_fault ∈ GW := GW_of 962 (by decide +kernel) (by decide +kernel)
theorem gw_963 : Cond.selects yX5_fault.cls yX5_fault yX5_fault ∈ GW := GW_of 963 (by decide +kernel) (by decide +kernel)
theorem ln_L_140 : LnkV RL 140 yX5_fault cX5_fault 1 (some .int) 0 := ⟨⟨GW_of 961 (by decide +kernel) (by decide +kernel), gw_962, gw_963, gw_62, gw_964⟩, by decide, ⟨by decide, by decide, by decide +kernel⟩⟩
theorem gw_968 : Cond.code yX5_many cX5_many 2 (some .int) ∈ GW := GW_of 968 (by decide +kernel) (by decide +kernel)
theorem gw_966 : Cond.instanceMethod yX5_many ∈ GW := GW_of 966 (by decide +kernel) (by decide +kernel)
theorem gw_967 : Cond.selects yX5_many.cls yX5_many yX5_many ∈ GW := GW_of 967 (by decide +kernel) (by decide +kernel)
theorem ln_L_144 : LnkV RL 144 yX5_many cX5_many 2 (some .int) 1 := ⟨⟨GW_of 965 (by decide +kernel) (by decide +kernel), gw_966, gw_967, gw_62, gw_968⟩, by decide, ⟨by decide, by decide, by decide +kernel⟩⟩
end
section
/-! rows for calls with a functional contract; branches on a truth value; constants folded -/
abbrev pF (v : PV) (μ1 : Int → ME) : Option PV → (Int → ME) → Prop := fun r μ' => r = some v ∧ μ' = μ1
abbrev pU (μ1 : Int → ME) : Option PV → (Int → ME) → Prop := fun r μ' => r = none ∧ μ' = μ1
section PMCONV
variable {K : KX} {X : CX} {nL d : Nat} {Q : State → Prop} {cc : ByteArray} {own : String} {ret : Option FieldType} {pc : Nat} {ls : List (Nat × PV)} {st : List PV} {μ μ1 : Int → ME}
theorem p_callVF (C : okX K X cc own nL (d + 1) ret) {idx n maxL : Nat} {y : MethodName} {bytes : ByteArray} {retc : Option FieldType} {v : PV} {av rest : List PV} {a : Int} {ci : Nat} {fs : List PV} {q : vw_C} (L : LnkV own idx y bytes maxL retc n) (dg : decode cc pc = .ok (.invokevirtual idx, 3)) (hM : Ct K d y bytes maxL retc (vR a :: av) μ (pF v μ1)) (ha : IR a) (hm : μ a = mO ci fs) (hc : classes[ci]? = some q) (hq : q.1 = y.cls) (hn : av.length = n) (hst : st = av.reverse ++ vR a :: rest) (hsz : (rest.map fun v => if isL v = true then 2 else 1).sum ≤ 8)
    (kk : PW K X nL Q (pc + 3) ls (v :: rest) μ1) : PW K X nL Q pc ls st μ :=
  p_callV C L dg hM ha hm hc hq hn hst hsz (fun r μ' h => by obtain ⟨rfl, rfl⟩ := h; exact kk)
theorem p_callSF (C : okX K X cc own nL (d + 1) ret) {idx n maxL : Nat} {y : MethodName} {bytes : ByteArray} {retc : Option FieldType} {v : PV} {av rest : List PV} (L : LnkS own idx y bytes maxL retc n) (dg : decode cc pc = .ok (.invokestatic idx, 3)) (hM : Ct K d y bytes maxL retc av μ (pF v μ1)) (hn : av.length = n) (hst : st = av.reverse ++ rest) (hsz : (rest.map fun v => if isL v = true then 2 else 1).sum ≤ 8)
    (kk : PW K X nL Q (pc + 3) ls (v :: rest) μ1) : PW K X nL Q pc ls st μ :=
  p_callS C L dg hM hn hst hsz (fun r μ' h => by obtain ⟨rfl, rfl⟩ := h; exact kk)
theorem p_callNF (C : okX K X cc own nL (d + 1) ret) {idx n maxL : Nat} {y : MethodName} {host : String} {bytes : ByteArray} {retc : Option FieldType} {v : PV} {av rest : List PV} (L : LnkN own idx y host bytes maxL retc n) (dg : decode cc pc = .ok (.invokestatic idx, 3)) (hM : Ct K d y bytes maxL retc av μ (pF v μ1)) (hn : av.length = n) (hst : st = av.reverse ++ rest) (hsz : (rest.map fun v => if isL v = true then 2 else 1).sum ≤ 8)
    (kk : PW K X nL Q (pc + 3) ls (v :: rest) μ1) : PW K X nL Q pc ls st μ :=
  p_callN C L dg hM hn hst hsz (fun r μ' h => by obtain ⟨rfl, rfl⟩ := h; exact kk)
theorem p_callVU (C : okX K X cc own nL (d + 1) ret) {idx n maxL : Nat} {y : MethodName} {bytes : ByteArray} {retc : Option FieldType} {av rest : List PV} {a : Int} {ci : Nat} {fs : List PV} {q : vw_C} (L : LnkV own idx y bytes maxL retc n) (dg : decode cc pc = .ok (.invokevirtual idx, 3)) (hM : Ct K d y bytes maxL retc (vR a :: av) μ (pU μ1)) (ha : IR a) (hm : μ a = mO ci fs) (hc : classes[ci]? = some q) (hq : q.1 = y.cls) (hn : av.length = n) (hst : st = av.reverse ++ vR a :: rest) (hsz : (rest.map fun v => if isL v = true then 2 else 1).sum ≤ 8)
    (kk : PW K X nL Q (pc + 3) ls rest μ1) : PW K X nL Q pc ls st μ :=
  p_callV C L dg hM ha hm hc hq hn hst hsz (fun r μ' h => by obtain ⟨rfl, rfl⟩ := h; exact kk)
theorem p_callSU (C : okX K X cc own nL (d + 1) ret) {idx n maxL : Nat} {y : MethodName} {bytes : ByteArray} {retc : Option FieldType} {av rest : List PV} (L : LnkS own idx y bytes maxL retc n) (dg : decode cc pc = .ok (.invokestatic idx, 3)) (hM : Ct K d y bytes maxL retc av μ (pU μ1)) (hn : av.length = n) (hst : st = av.reverse ++ rest) (hsz : (rest.map fun v => if isL v = true then 2 else 1).sum ≤ 8)
    (kk : PW K X nL Q (pc + 3) ls rest μ1) : PW K X nL Q pc ls st μ :=
  p_callS C L dg hM hn hst hsz (fun r μ' h => by obtain ⟨rfl, rfl⟩ := h; exact kk)
theorem p_callNU (C : okX K X cc own nL (d + 1) ret) {idx n maxL : Nat} {y : MethodName} {host : String} {bytes : ByteArray} {retc : Option FieldType} {av rest : List PV} (L : LnkN own idx y host bytes maxL retc n) (dg : decode cc pc = .ok (.invokestatic idx, 3)) (hM : Ct K d y bytes maxL retc av μ (pU μ1)) (hn : av.length = n) (hst : st = av.reverse ++ rest) (hsz : (rest.map fun v => if isL v = true then 2 else 1).sum ≤ 8)
    (kk : PW K X nL Q (pc + 3) ls rest μ1) : PW K X nL Q pc ls st μ :=
  p_callN C L dg hM hn hst hsz (fun r μ' h => by obtain ⟨rfl, rfl⟩ := h; exact kk)
theorem p_ifeq_b (C : okX K X cc own nL d ret) {P : Prop} {i : Decidable P} {off : Int} {tgt : Nat} (dg : decode cc pc = .ok (.ifCond .eq off, 3)) (ht : (pc : Int) + off = (tgt : Int)) (k1 : ¬ P → PW K X nL Q tgt ls st μ) (k2 : P → PW K X nL Q (pc + 3) ls st μ) : PW K X nL Q pc ls (vI (@ite Int P i 1 0) :: st) μ :=
  p_if_eq C dg ht (fun h => k1 (fun p => by rw [if_pos p] at h; exact absurd h (by decide))) (fun h => by
    by_cases p : P
    · exact k2 p
    · rw [if_neg p] at h; exact absurd rfl h)
theorem p_ifne_b (C : okX K X cc own nL d ret) {P : Prop} {i : Decidable P} {off : Int} {tgt : Nat} (dg : decode cc pc = .ok (.ifCond .ne off, 3)) (ht : (pc : Int) + off = (tgt : Int)) (k1 : P → PW K X nL Q tgt ls st μ) (k2 : ¬ P → PW K X nL Q (pc + 3) ls st μ) : PW K X nL Q pc ls (vI (@ite Int P i 1 0) :: st) μ :=
  p_if_ne C dg ht (fun h => by
    by_cases p : P
    · exact k1 p
    · rw [if_neg p] at h; exact absurd rfl h) (fun h => k2 (fun p => by rw [if_pos p] at h; exact absurd h (by decide)))
theorem p_iaddC (C : okX K X cc own nL d ret) {x y w : Int} (dg : decode cc pc = .ok (.iadd, 1)) (hw : x + y = w) (hr : rng w) (k : PW K X nL Q (pc + 1) ls (vI w :: st) μ) : PW K X nL Q pc ls (vI y :: vI x :: st) μ := by
  subst hw; exact p_iadd C dg hr k
theorem p_isubC (C : okX K X cc own nL d ret) {x y w : Int} (dg : decode cc pc = .ok (.isub, 1)) (hw : x - y = w) (hr : rng w) (k : PW K X nL Q (pc + 1) ls (vI w :: st) μ) : PW K X nL Q pc ls (vI y :: vI x :: st) μ := by
  subst hw; exact p_isub C dg hr k
theorem p_imulC (C : okX K X cc own nL d ret) {x y w : Int} (dg : decode cc pc = .ok (.imul, 1)) (hw : x * y = w) (hr : rng w) (k : PW K X nL Q (pc + 1) ls (vI w :: st) μ) : PW K X nL Q pc ls (vI y :: vI x :: st) μ := by
  subst hw; exact p_imul C dg hr k
theorem p_iincC (C : okX K X cc own nL d ret) {i : Nat} {n z w : Int} {ls' : List (Nat × PV)} (dg : decode cc pc = .ok (.iinc i n, 3)) (hi : i < nL) (hk : lk ls i = some (vI z)) (hw : z + n = w) (hr : rng w) (h : sl ls i (vI w) = ls') (k : PW K X nL Q (pc + 3) ls' st μ) : PW K X nL Q pc ls st μ := by
  subst hw; exact p_iinc C dg hi hk hr h k
/-- a value under another name -/
theorem p_top {z w : Int} (h : z = w) (k : PW K X nL Q pc ls (vI w :: st) μ) : PW K X nL Q pc ls (vI z :: st) μ := h ▸ k
theorem p_topL {z w : Int} (h : z = w) (k : PW K X nL Q pc ls (vL w :: st) μ) : PW K X nL Q pc ls (vL z :: st) μ := h ▸ k
theorem p_mem {μ' : Int → ME} (h : μ = μ') (k : PW K X nL Q pc ls st μ') : PW K X nL Q pc ls st μ := h ▸ k
theorem p_ls {ls' : List (Nat × PV)} (h : ls = ls') (k : PW K X nL Q pc ls' st μ) : PW K X nL Q pc ls st μ := h ▸ k
end PMCONV
theorem Ct.mono {K : KX} {d maxL : Nat} {y : MethodName} {bytes : ByteArray} {ret : Option FieldType} {av : List PV} {μ : Int → ME} {P P' : Option PV → (Int → ME) → Prop} (h : Ct K d y bytes maxL ret av μ P) (hp : P = P') : Ct K d y bytes maxL ret av μ P' := hp ▸ h
end
section
/-- cells copied -/
def fcp (f g : Int → Int) (sp dp n : Int) : Int → Int := fun k => if dp ≤ k ∧ k < dp + n then f (sp + (k - dp)) else g k
theorem kl_X1_48 : Cond.methodLink RX1 48 arraycopyName ∈ GW := GW_of 383 (by decide +kernel) (by decide +kernel)
theorem kl_X2_53 : Cond.methodLink RX2 53 arraycopyName ∈ GW := GW_of 456 (by decide +kernel) (by decide +kernel)
theorem kl_X4_234 : Cond.methodLink RX4 234 arraycopyName ∈ GW := GW_of 537 (by decide +kernel) (by decide +kernel)
theorem w_cpN : Cond.native arraycopyName ∈ GW := GW_of 385 (by decide +kernel) (by decide +kernel)
theorem w_cpS : Cond.static arraycopyName ∈ GW := GW_of 384 (by decide +kernel) (by decide +kernel)
theorem w_cpI : Cond.initialized "java/lang/System" ∈ GW := GW_of 63 (by decide +kernel) (by decide +kernel)
section PMCOPY
variable {K : KX} {X : CX} {nL d : Nat} {Q : State → Prop} {cc : ByteArray} {own : String} {ret : Option FieldType} {pc : Nat} {ls : List (Nat × PV)} {μ : Int → ME}
theorem p_copy (C : okX K X cc own nL (d + 1) ret) {idx : Nat} {a0 a sp dp n : Int} {n0 n1 : Nat} {f g : Int → Int} (hw : Cond.methodLink own idx arraycopyName ∈ GW) (dg : decode cc pc = .ok (.invokestatic idx, 3)) (ha0 : IR a0) (ha : IR a) (hm0 : μ a0 = mA n0 f) (hm : μ a = mA n1 g) (h1 : 0 ≤ sp) (h2 : 0 ≤ dp) (h3 : 0 ≤ n) (h4 : sp + n ≤ (n0 : Int)) (h5 : dp + n ≤ (n1 : Int)) (kk : PW K X nL Q (pc + 3) ls [] (mup μ a (mA n1 (fcp f g sp dp n)))) : PW K X nL Q pc ls [vI n, vI dp, vR a, vI sp, vR a0] μ := fun H locs la hP hS hl hμ hL hs => by
  have rn : rng n := hs.hd
  have rd : rng dp := hs.tl.hd
  have rs : rng sp := hs.tl.tl.tl.hd
  have o0 : okM (μ a0) := hμ a0 ha0.1 ha0.2
  have o1 : okM (μ a) := hμ a ha.1 ha.2
  rw [hm0] at o0
  rw [hm] at o1
  have ng : ∀ {z : Int}, 0 ≤ z → rng z → ¬ Int32.ofInt z < 0 := fun hz hr h => by
    rw [show (0 : Int32) = Int32.ofInt 0 from rfl, zi_lt hr (by decide)] at h; omega
  refine va_copyi (n0 := n0) (n1 := n1) (f := fun j => Int32.ofInt (f (j : Int))) (g := fun j => Int32.ofInt (g (j : Int))) (c0 := K.2.2.1 0) (c1 := K.2.2.1 0) (A := reg K) (rest := []) C.1 C.2.1 (by rw [C.2.2.1]; exact hl.1.symm) C.2.2.2.1 (C.2.2.2.2.1 _ hw) (C.2.2.2.2.1 _ w_cpN) (C.2.2.2.2.1 _ w_cpS) (C.2.2.2.2.1 _ w_cpI) C.2.2.2.2.2.1.1 hP (wld_D K μ) hS a0.toNat a.toNat 0 0 (a0 := kad K a0) (a := kad K a) (ty := .int) ?_ ?_ rfl rfl rfl (ng h1 rs) (ng h2 rd) (ng h3 rn) ?_ ?_ (fun i _ => rfl) ?_ ?_ dg ?_
  · rw [wld_at μ ha0, hm0]; rfl
  · rw [wld_at μ ha, hm]; rfl
  · rw [zi_cl rs, zi_cl rn]; omega
  · rw [zi_cl rd, zi_cl rn]; omega
  · have := C.2.2.2.2.2.2.2.2.1.1; omega
  · have := C.2.2.2.2.2.2.2.2.1.2
    refine Nat.le_trans ?_ (Nat.le_trans (show 31 ≤ 31 * (d + 1) by omega) this)
    decide
  · intro H1 locs1 g1 _ g3
    have e : va_cpy (fun j : Nat => Int32.ofInt (f (j : Int))) (fun j : Nat => Int32.ofInt (g (j : Int))) (Int32.ofInt sp).toNatClampNeg (Int32.ofInt dp).toNatClampNeg (Int32.ofInt n).toNatClampNeg = fun j : Nat => Int32.ofInt (fcp f g sp dp n (j : Int)) := by
      funext j
      rw [zi_cl rs, zi_cl rd, zi_cl rn]
      unfold va_cpy fcp
      by_cases h : dp.toNat ≤ j ∧ j < dp.toNat + n.toNat
      · rw [if_pos h, if_pos (by omega)]
        dsimp only
        rw [show ((sp.toNat + (j - dp.toNat) : Nat) : Int) = sp + ((j : Int) - dp) by omega]
      · rw [if_neg h, if_neg (by omega)]
    rw [e, show (Sum.inl (K.2.2.1 0, n1, Sum.inl fun j : Nat => Int32.ofInt (fcp f g sp dp n (j : Int))) : va_E) = eM K (mA n1 (fcp f g sp dp n)) from rfl, wld_set ha] at g1
    refine kk H1 locs1 la g1 g3 hl (okU_mup hμ ?_) hL okS.nil
    intro j j0 j1
    show rng (fcp f g sp dp n j)
    unfold fcp
    split
    · exact o0 _ (by omega) (by omega)
    · exact o1 j j0 j1
end PMCOPY
end
section
theorem mg_n {μ : Int → ME} {a j : Int} {o r : ME} (h : j ≠ a) (k : μ j = r) : mup μ a o j = r := by rw [mup_n _ _ _ h]; exact k
theorem sv {x y : Int} (h : x = y) : (some (vI x) : Option PV) = some (vI y) := by rw [h]
theorem svL {x y : Int} (h : x = y) : (some (vL x) : Option PV) = some (vL y) := by rw [h]
/-- what a ship bears -/
def brg (kd sg : Int) : Int := if kd = 1 then sg + 1 else if kd = 2 then 2 * sg else sg
def wor (f : Int → Int) : Int := f 0 + 2 * f 1 + 3 * f 2 + 4 * f 3
def pcs (f : Int → Int) : Int := f 0 + f 1 + f 2 + f 3
/-- the good that goes -/
def gtg (f : Int → Int) (nm : Int) : Int := if f nm ≠ 0 then nm else if 0 < f 0 then 0 else if 0 < f 1 then 1 else if 0 < f 2 then 2 else if 0 < f 3 then 3 else -9
abbrev oS (kd nm sg pt c : Int) : ME := mO 1 [vI kd, vI nm, vI sg, vI pt, vR c]
abbrev oR (th ln le c : Int) : ME := mO 0 [vI th, vI ln, vI le, vR c]
abbrev oT (p w s : Int) : ME := mO 3 [vI p, vI w, vI s]
abbrev oY (np ns day nr tr fl : Int) : ME := mO 4 [vR 1, vI np, vR 2, vI ns, vI day, vR 3, vR 4, vR 5, vR 9, vR 10, vR 11, vR 12, vI nr, vR 13, vI tr, vI fl]
/-- four numbers between 0 and m -/
def bd4 (f : Int → Int) (m : Int) : Prop := (0 ≤ f 0 ∧ f 0 ≤ m) ∧ (0 ≤ f 1 ∧ f 1 ≤ m) ∧ (0 ≤ f 2 ∧ f 2 ≤ m) ∧ (0 ≤ f 3 ∧ f 3 ≤ m)
theorem bd4.at {f : Int → Int} {m : Int} (h : bd4 f m) {g : Int} (h0 : 0 ≤ g) (h1 : g < 4) : 0 ≤ f g ∧ f g ≤ m := by
  obtain ⟨a, b, c, e⟩ := h
  rcases (show g = 0 ∨ g = 1 ∨ g = 2 ∨ g = 3 by omega) with rfl | rfl | rfl | rfl
  · exact a
  · exact b
  · exact c
  · exact e

set_option maxHeartbeats 4000000 in
set_option maxRecDepth 100000 in
theorem k_X4_isBelow {K : KX} {d : Nat} {μ : Int → ME} {v e : Int} : Ct K (d) yX4_isBelow cX4_isBelow 2 (some .boolean) [vI v, vI e] μ (pF (vI (if 0 ≤ v ∧ v < e then 1 else 0)) μ) := by
  refine Ct.of (by decide) (Nat.le_of_ble_eq_true rfl) (fun X C => ?_)
  refine p_iload_n (pc := 0) C dX4_isBelow_0 rfl ?_
  refine p_if_lt (pc := 1) (tgt := 13) C dX4_isBelow_1 (by decide) (fun c_1 => ?_) (fun c_1 => ?_)
  · refine p_iconst (pc := 13) C dX4_isBelow_13 (by decide) ?_
    refine p_zret (pc := 14) C dX4_isBelow_14 (by first | exact Or.inl rfl | exact Or.inr rfl | (split <;> simp)) ?_
    exact ⟨by first | rfl | (rw [if_pos (by omega)]) | (rw [if_neg (by omega)]) | (congr 2; omega), rfl⟩
  · refine p_iload_n (pc := 4) C dX4_isBelow_4 rfl ?_
    refine p_iload_n (pc := 5) C dX4_isBelow_5 rfl ?_
    refine p_icmp_ge (pc := 6) (tgt := 13) C dX4_isBelow_6 (by decide) (fun c_6 => ?_) (fun c_6 => ?_)
    · refine p_iconst (pc := 13) C dX4_isBelow_13 (by decide) ?_
      refine p_zret (pc := 14) C dX4_isBelow_14 (by first | exact Or.inl rfl | exact Or.inr rfl | (split <;> simp)) ?_
      exact ⟨by first | rfl | (rw [if_pos (by omega)]) | (rw [if_neg (by omega)]) | (congr 2; omega), rfl⟩
    · refine p_iconst (pc := 9) C dX4_isBelow_9 (by decide) ?_
      refine p_goto (pc := 10) (tgt := 14) C dX4_isBelow_10 (by decide) ?_
      refine p_zret (pc := 14) C dX4_isBelow_14 (by first | exact Or.inl rfl | exact Or.inr rfl | (split <;> simp)) ?_
      exact ⟨by first | rfl | (rw [if_pos (by omega)]) | (rw [if_neg (by omega)]) | (congr 2; omega), rfl⟩

set_option maxHeartbeats 4000000 in
set_option maxRecDepth 100000 in
theorem k_X4_isUpTo {K : KX} {d : Nat} {μ : Int → ME} {v e : Int} : Ct K (d) yX4_isUpTo cX4_isUpTo 2 (some .boolean) [vI v, vI e] μ (pF (vI (if 0 ≤ v ∧ v ≤ e then 1 else 0)) μ) := by
  refine Ct.of (by decide) (Nat.le_of_ble_eq_true rfl) (fun X C => ?_)
  refine p_iload_n (pc := 0) C dX4_isUpTo_0 rfl ?_
  refine p_if_lt (pc := 1) (tgt := 13) C dX4_isUpTo_1 (by decide) (fun c_1 => ?_) (fun c_1 => ?_)
  · refine p_iconst (pc := 13) C dX4_isUpTo_13 (by decide) ?_
    refine p_zret (pc := 14) C dX4_isUpTo_14 (by first | exact Or.inl rfl | exact Or.inr rfl | (split <;> simp)) ?_
    exact ⟨by first | rfl | (rw [if_pos (by omega)]) | (rw [if_neg (by omega)]) | (congr 2; omega), rfl⟩
  · refine p_iload_n (pc := 4) C dX4_isUpTo_4 rfl ?_
    refine p_iload_n (pc := 5) C dX4_isUpTo_5 rfl ?_
    refine p_icmp_gt (pc := 6) (tgt := 13) C dX4_isUpTo_6 (by decide) (fun c_6 => ?_) (fun c_6 => ?_)
    · refine p_iconst (pc := 13) C dX4_isUpTo_13 (by decide) ?_
      refine p_zret (pc := 14) C dX4_isUpTo_14 (by first | exact Or.inl rfl | exact Or.inr rfl | (split <;> simp)) ?_
      exact ⟨by first | rfl | (rw [if_pos (by omega)]) | (rw [if_neg (by omega)]) | (congr 2; omega), rfl⟩
    · refine p_iconst (pc := 9) C dX4_isUpTo_9 (by decide) ?_
      refine p_goto (pc := 10) (tgt := 14) C dX4_isUpTo_10 (by decide) ?_
      refine p_zret (pc := 14) C dX4_isUpTo_14 (by first | exact Or.inl rfl | exact Or.inr rfl | (split <;> simp)) ?_
      exact ⟨by first | rfl | (rw [if_pos (by omega)]) | (rw [if_neg (by omega)]) | (congr 2; omega), rfl⟩

set_option maxHeartbeats 4000000 in
set_option maxRecDepth 100000 in
theorem k_X4_isLot {K : KX} {d : Nat} {μ : Int → ME} {v : Int} : Ct K (d) yX4_isLot cX4_isLot 1 (some .boolean) [vI v] μ (pF (vI (if 1 ≤ v ∧ v ≤ 9 then 1 else 0)) μ) := by
  refine Ct.of (by decide) (Nat.le_of_ble_eq_true rfl) (fun X C => ?_)
  refine p_iload_n (pc := 0) C dX4_isLot_0 rfl ?_
  refine p_iconst (pc := 1) C dX4_isLot_1 (by decide) ?_
  refine p_icmp_lt (pc := 2) (tgt := 15) C dX4_isLot_2 (by decide) (fun c_2 => ?_) (fun c_2 => ?_)
  · refine p_iconst (pc := 15) C dX4_isLot_15 (by decide) ?_
    refine p_zret (pc := 16) C dX4_isLot_16 (by first | exact Or.inl rfl | exact Or.inr rfl | (split <;> simp)) ?_
    exact ⟨by first | rfl | (rw [if_pos (by omega)]) | (rw [if_neg (by omega)]) | (congr 2; omega), rfl⟩
  · refine p_iload_n (pc := 5) C dX4_isLot_5 rfl ?_
    refine p_bipush (pc := 6) C dX4_isLot_6 (by decide) ?_
    refine p_icmp_gt (pc := 8) (tgt := 15) C dX4_isLot_8 (by decide) (fun c_8 => ?_) (fun c_8 => ?_)
    · refine p_iconst (pc := 15) C dX4_isLot_15 (by decide) ?_
      refine p_zret (pc := 16) C dX4_isLot_16 (by first | exact Or.inl rfl | exact Or.inr rfl | (split <;> simp)) ?_
      exact ⟨by first | rfl | (rw [if_pos (by omega)]) | (rw [if_neg (by omega)]) | (congr 2; omega), rfl⟩
    · refine p_iconst (pc := 11) C dX4_isLot_11 (by decide) ?_
      refine p_goto (pc := 12) (tgt := 16) C dX4_isLot_12 (by decide) ?_
      refine p_zret (pc := 16) C dX4_isLot_16 (by first | exact Or.inl rfl | exact Or.inr rfl | (split <;> simp)) ?_
      exact ⟨by first | rfl | (rw [if_pos (by omega)]) | (rw [if_neg (by omega)]) | (congr 2; omega), rfl⟩

set_option maxHeartbeats 4000000 in
set_option maxRecDepth 100000 in
theorem k_X4_isSheet {K : KX} {d : Nat} {μ : Int → ME} {v : Int} : Ct K (d + 1) yX4_isSheet cX4_isSheet 1 (some .boolean) [vI v] μ (pF (vI (if 0 ≤ v ∧ v < 4 then 1 else 0)) μ) := by
  refine Ct.of (by decide) (Nat.le_of_ble_eq_true rfl) (fun X C => ?_)
  refine p_iload_n (pc := 0) C dX4_isSheet_0 rfl ?_
  refine p_iconst (pc := 1) C dX4_isSheet_1 (by decide) ?_
  refine p_callSF (pc := 2) C ln_X4_66 dX4_isSheet_2 (k_X4_isBelow) rfl rfl (Nat.le_of_ble_eq_true rfl) ?_
  refine p_zret (pc := 5) C dX4_isSheet_5 (by first | exact Or.inl rfl | exact Or.inr rfl | (split <;> simp)) ?_
  exact ⟨by first | rfl | (rw [if_pos (by omega)]) | (rw [if_neg (by omega)]) | (congr 2; omega), rfl⟩

set_option maxHeartbeats 4000000 in
set_option maxRecDepth 100000 in
theorem k_X4_isGood {K : KX} {d : Nat} {μ : Int → ME} {v : Int} : Ct K (d + 1) yX4_isGood cX4_isGood 1 (some .boolean) [vI v] μ (pF (vI (if 0 ≤ v ∧ v < 4 then 1 else 0)) μ) := by
  refine Ct.of (by decide) (Nat.le_of_ble_eq_true rfl) (fun X C => ?_)
  refine p_iload_n (pc := 0) C dX4_isGood_0 rfl ?_
  refine p_iconst (pc := 1) C dX4_isGood_1 (by decide) ?_
  refine p_callSF (pc := 2) C ln_X4_66 dX4_isGood_2 (k_X4_isBelow) rfl rfl (Nat.le_of_ble_eq_true rfl) ?_
  refine p_zret (pc := 5) C dX4_isGood_5 (by first | exact Or.inl rfl | exact Or.inr rfl | (split <;> simp)) ?_
  exact ⟨by first | rfl | (rw [if_pos (by omega)]) | (rw [if_neg (by omega)]) | (congr 2; omega), rfl⟩


set_option maxHeartbeats 4000000 in
set_option maxRecDepth 100000 in
theorem k_X4_bearingOf {K : KX} {d : Nat} {μ : Int → ME} {kd sg : Int} (h : 0 ≤ sg ∧ sg ≤ 1000) : Ct K (d) yX4_bearingOf cX4_bearingOf 2 (some .int) [vI kd, vI sg] μ (pF (vI (brg kd sg)) μ) := by
  refine Ct.of (by decide) (Nat.le_of_ble_eq_true rfl) (fun X C => ?_)
  refine p_iload_n (pc := 0) C dX4_bearingOf_0 rfl ?_
  by_cases s_1_1 : kd = 1
  · refine p_look (pc := 1) (off := 31) (tgt := 32) C dX4_bearingOf_1 (by decide) (by rw [s_1_1]; rfl) (by decide) ?_
    refine p_iload_n (pc := 32) C dX4_bearingOf_32 rfl ?_
    refine p_iconst (pc := 33) C dX4_bearingOf_33 (by decide) ?_
    refine p_iadd (pc := 34) C dX4_bearingOf_34 ⟨by omega, by omega⟩ ?_
    refine p_iret (pc := 35) C dX4_bearingOf_35 ?_
    exact ⟨sv (by unfold brg; split <;> first | omega | (split <;> omega)), rfl⟩
  by_cases s_1_2 : kd = 2
  · refine p_look (pc := 1) (off := 27) (tgt := 28) C dX4_bearingOf_1 (by decide) (by rw [s_1_2]; rfl) (by decide) ?_
    refine p_iconst (pc := 28) C dX4_bearingOf_28 (by decide) ?_
    refine p_iload_n (pc := 29) C dX4_bearingOf_29 rfl ?_
    refine p_imul (pc := 30) C dX4_bearingOf_30 ⟨by omega, by omega⟩ ?_
    refine p_iret (pc := 31) C dX4_bearingOf_31 ?_
    exact ⟨sv (by unfold brg; split <;> first | omega | (split <;> omega)), rfl⟩
  refine p_look (pc := 1) (off := 35) (tgt := 36) C dX4_bearingOf_1 (by decide) (by show (if (1 : Int) = kd then (31 : Int) else if (2 : Int) = kd then (27 : Int) else (35 : Int)) = (35 : Int); rw [if_neg (by omega), if_neg (by omega)]) (by decide) ?_
  refine p_iload_n (pc := 36) C dX4_bearingOf_36 rfl ?_
  refine p_iret (pc := 37) C dX4_bearingOf_37 ?_
  exact ⟨sv (by unfold brg; split <;> first | omega | (split <;> omega)), rfl⟩

set_option maxHeartbeats 4000000 in
set_option maxRecDepth 100000 in
theorem k_X4_worthOf {K : KX} {d : Nat} {μ : Int → ME} {v : Int} (h : 0 ≤ v ∧ v ≤ 1000) : Ct K (d) yX4_worthOf cX4_worthOf 1 (some .int) [vI v] μ (pF (vI (v + 1)) μ) := by
  refine Ct.of (by decide) (Nat.le_of_ble_eq_true rfl) (fun X C => ?_)
  refine p_iload_n (pc := 0) C dX4_worthOf_0 rfl ?_
  refine p_iconst (pc := 1) C dX4_worthOf_1 (by decide) ?_
  refine p_iadd (pc := 2) C dX4_worthOf_2 ⟨by omega, by omega⟩ ?_
  refine p_iret (pc := 3) C dX4_worthOf_3 ?_
  exact ⟨by first | rfl | (rw [if_pos (by omega)]) | (rw [if_neg (by omega)]) | (congr 2; omega), rfl⟩

set_option maxHeartbeats 4000000 in
set_option maxRecDepth 100000 in
theorem k_X4_worthOfAll {K : KX} {d : Nat} {μ : Int → ME} {a : Int} {f : Int → Int} (ha : IR a) (hm : μ a = mA 4 f) (hb : bd4 f 100) : Ct K (d + 1) yX4_worthOfAll cX4_worthOfAll 3 (some .int) [vR a] μ (pF (vI (wor f)) μ) := by
  refine Ct.of (by decide) (Nat.le_of_ble_eq_true rfl) (fun X C => ?_)
  obtain ⟨⟨b0, b1⟩, ⟨b2, b3⟩, ⟨b4, b5⟩, ⟨b6, b7⟩⟩ := hb
  refine p_iconst (pc := 0) C dX4_worthOfAll_0 (by decide) ?_
  refine p_istore_n (pc := 1) (ls' := [(1, _), (0, _)]) C dX4_worthOfAll_1 (by decide) rfl ?_
  refine p_iconst (pc := 2) C dX4_worthOfAll_2 (by decide) ?_
  refine p_istore_n (pc := 3) (ls' := [(2, _), (1, _), (0, _)]) C dX4_worthOfAll_3 (by decide) rfl ?_
  refine p_iload_n (pc := 4) C dX4_worthOfAll_4 rfl ?_
  refine p_iconst (pc := 5) C dX4_worthOfAll_5 (by decide) ?_
  refine p_icmp_ge (pc := 6) (tgt := 26) C dX4_worthOfAll_6 (by decide) (fun h => absurd h (by decide)) (fun c_6 => ?_)
  refine p_iload_n (pc := 9) C dX4_worthOfAll_9 rfl ?_
  refine p_aload_n (pc := 10) C dX4_worthOfAll_10 rfl ?_
  refine p_iload_n (pc := 11) C dX4_worthOfAll_11 rfl ?_
  refine p_iald (pc := 12) C dX4_worthOfAll_12 ha (by assumption) (by omega) ?_
  refine p_iload_n (pc := 13) C dX4_worthOfAll_13 rfl ?_
  refine p_callSF (pc := 14) C ln_X4_211 dX4_worthOfAll_14 (k_X4_worthOf (by omega)) rfl rfl (Nat.le_of_ble_eq_true rfl) ?_
  refine p_imul (pc := 17) C dX4_worthOfAll_17 ⟨by omega, by omega⟩ ?_
  refine p_iadd (pc := 18) C dX4_worthOfAll_18 ⟨by omega, by omega⟩ ?_
  refine p_istore_n (pc := 19) (ls' := [(1, _), (2, _), (0, _)]) C dX4_worthOfAll_19 (by decide) rfl ?_
  refine p_iincC (pc := 20) (w := 1) (ls' := [(2, _), (1, _), (0, _)]) C dX4_worthOfAll_20 (by decide) rfl (by decide) (by decide) rfl ?_
  refine p_goto (pc := 23) (tgt := 4) C dX4_worthOfAll_23 (by decide) ?_
  refine p_iload_n (pc := 4) C dX4_worthOfAll_4 rfl ?_
  refine p_iconst (pc := 5) C dX4_worthOfAll_5 (by decide) ?_
  refine p_icmp_ge (pc := 6) (tgt := 26) C dX4_worthOfAll_6 (by decide) (fun h => absurd h (by decide)) (fun c_6 => ?_)
  refine p_iload_n (pc := 9) C dX4_worthOfAll_9 rfl ?_
  refine p_aload_n (pc := 10) C dX4_worthOfAll_10 rfl ?_
  refine p_iload_n (pc := 11) C dX4_worthOfAll_11 rfl ?_
  refine p_iald (pc := 12) C dX4_worthOfAll_12 ha (by assumption) (by omega) ?_
  refine p_iload_n (pc := 13) C dX4_worthOfAll_13 rfl ?_
  refine p_callSF (pc := 14) C ln_X4_211 dX4_worthOfAll_14 (k_X4_worthOf (by omega)) rfl rfl (Nat.le_of_ble_eq_true rfl) ?_
  refine p_imul (pc := 17) C dX4_worthOfAll_17 ⟨by omega, by omega⟩ ?_
  refine p_iadd (pc := 18) C dX4_worthOfAll_18 ⟨by omega, by omega⟩ ?_
  refine p_istore_n (pc := 19) (ls' := [(1, _), (2, _), (0, _)]) C dX4_worthOfAll_19 (by decide) rfl ?_
  refine p_iincC (pc := 20) (w := 2) (ls' := [(2, _), (1, _), (0, _)]) C dX4_worthOfAll_20 (by decide) rfl (by decide) (by decide) rfl ?_
  refine p_goto (pc := 23) (tgt := 4) C dX4_worthOfAll_23 (by decide) ?_
  refine p_iload_n (pc := 4) C dX4_worthOfAll_4 rfl ?_
  refine p_iconst (pc := 5) C dX4_worthOfAll_5 (by decide) ?_
  refine p_icmp_ge (pc := 6) (tgt := 26) C dX4_worthOfAll_6 (by decide) (fun h => absurd h (by decide)) (fun c_6 => ?_)
  refine p_iload_n (pc := 9) C dX4_worthOfAll_9 rfl ?_
  refine p_aload_n (pc := 10) C dX4_worthOfAll_10 rfl ?_
  refine p_iload_n (pc := 11) C dX4_worthOfAll_11 rfl ?_
  refine p_iald (pc := 12) C dX4_worthOfAll_12 ha (by assumption) (by omega) ?_
  refine p_iload_n (pc := 13) C dX4_worthOfAll_13 rfl ?_
  refine p_callSF (pc := 14) C ln_X4_211 dX4_worthOfAll_14 (k_X4_worthOf (by omega)) rfl rfl (Nat.le_of_ble_eq_true rfl) ?_
  refine p_imul (pc := 17) C dX4_worthOfAll_17 ⟨by omega, by omega⟩ ?_
  refine p_iadd (pc := 18) C dX4_worthOfAll_18 ⟨by omega, by omega⟩ ?_
  refine p_istore_n (pc := 19) (ls' := [(1, _), (2, _), (0, _)]) C dX4_worthOfAll_19 (by decide) rfl ?_
  refine p_iincC (pc := 20) (w := 3) (ls' := [(2, _), (1, _), (0, _)]) C dX4_worthOfAll_20 (by decide) rfl (by decide) (by decide) rfl ?_
  refine p_goto (pc := 23) (tgt := 4) C dX4_worthOfAll_23 (by decide) ?_
  refine p_iload_n (pc := 4) C dX4_worthOfAll_4 rfl ?_
  refine p_iconst (pc := 5) C dX4_worthOfAll_5 (by decide) ?_
  refine p_icmp_ge (pc := 6) (tgt := 26) C dX4_worthOfAll_6 (by decide) (fun h => absurd h (by decide)) (fun c_6 => ?_)
  refine p_iload_n (pc := 9) C dX4_worthOfAll_9 rfl ?_
  refine p_aload_n (pc := 10) C dX4_worthOfAll_10 rfl ?_
  refine p_iload_n (pc := 11) C dX4_worthOfAll_11 rfl ?_
  refine p_iald (pc := 12) C dX4_worthOfAll_12 ha (by assumption) (by omega) ?_
  refine p_iload_n (pc := 13) C dX4_worthOfAll_13 rfl ?_
  refine p_callSF (pc := 14) C ln_X4_211 dX4_worthOfAll_14 (k_X4_worthOf (by omega)) rfl rfl (Nat.le_of_ble_eq_true rfl) ?_
  refine p_imul (pc := 17) C dX4_worthOfAll_17 ⟨by omega, by omega⟩ ?_
  refine p_iadd (pc := 18) C dX4_worthOfAll_18 ⟨by omega, by omega⟩ ?_
  refine p_istore_n (pc := 19) (ls' := [(1, _), (2, _), (0, _)]) C dX4_worthOfAll_19 (by decide) rfl ?_
  refine p_iincC (pc := 20) (w := 4) (ls' := [(2, _), (1, _), (0, _)]) C dX4_worthOfAll_20 (by decide) rfl (by decide) (by decide) rfl ?_
  refine p_goto (pc := 23) (tgt := 4) C dX4_worthOfAll_23 (by decide) ?_
  refine p_iload_n (pc := 4) C dX4_worthOfAll_4 rfl ?_
  refine p_iconst (pc := 5) C dX4_worthOfAll_5 (by decide) ?_
  refine p_icmp_ge (pc := 6) (tgt := 26) C dX4_worthOfAll_6 (by decide) (fun c_6 => ?_) (fun h => absurd h (by decide))
  refine p_iload_n (pc := 26) C dX4_worthOfAll_26 rfl ?_
  refine p_iret (pc := 27) C dX4_worthOfAll_27 ?_
  exact ⟨sv (by first | rfl | (simp only [brg, wor, pcs, gtg]; omega)), rfl⟩

set_option maxHeartbeats 4000000 in
set_option maxRecDepth 100000 in
theorem k_X4_isDigit {K : KX} {d : Nat} {μ : Int → ME} {v e : Int} (h : 0 ≤ e ∧ e ≤ 100) : Ct K (d) yX4_isDigit cX4_isDigit 2 (some .boolean) [vI v, vI e] μ (pF (vI (if 48 ≤ v ∧ v < 48 + e then 1 else 0)) μ) := by
  refine Ct.of (by decide) (Nat.le_of_ble_eq_true rfl) (fun X C => ?_)
  refine p_iload_n (pc := 0) C dX4_isDigit_0 rfl ?_
  refine p_bipush (pc := 1) C dX4_isDigit_1 (by decide) ?_
  refine p_icmp_lt (pc := 3) (tgt := 18) C dX4_isDigit_3 (by decide) (fun c_3 => ?_) (fun c_3 => ?_)
  · refine p_iconst (pc := 18) C dX4_isDigit_18 (by decide) ?_
    refine p_zret (pc := 19) C dX4_isDigit_19 (by first | exact Or.inl rfl | exact Or.inr rfl | (split <;> simp)) ?_
    exact ⟨by first | rfl | (rw [if_pos (by omega)]) | (rw [if_neg (by omega)]) | (congr 2; omega), rfl⟩
  · refine p_iload_n (pc := 6) C dX4_isDigit_6 rfl ?_
    refine p_bipush (pc := 7) C dX4_isDigit_7 (by decide) ?_
    refine p_iload_n (pc := 9) C dX4_isDigit_9 rfl ?_
    refine p_iadd (pc := 10) C dX4_isDigit_10 ⟨by omega, by omega⟩ ?_
    refine p_icmp_ge (pc := 11) (tgt := 18) C dX4_isDigit_11 (by decide) (fun c_11 => ?_) (fun c_11 => ?_)
    · refine p_iconst (pc := 18) C dX4_isDigit_18 (by decide) ?_
      refine p_zret (pc := 19) C dX4_isDigit_19 (by first | exact Or.inl rfl | exact Or.inr rfl | (split <;> simp)) ?_
      exact ⟨by first | rfl | (rw [if_pos (by omega)]) | (rw [if_neg (by omega)]) | (congr 2; omega), rfl⟩
    · refine p_iconst (pc := 14) C dX4_isDigit_14 (by decide) ?_
      refine p_goto (pc := 15) (tgt := 19) C dX4_isDigit_15 (by decide) ?_
      refine p_zret (pc := 19) C dX4_isDigit_19 (by first | exact Or.inl rfl | exact Or.inr rfl | (split <;> simp)) ?_
      exact ⟨by first | rfl | (rw [if_pos (by omega)]) | (rw [if_neg (by omega)]) | (congr 2; omega), rfl⟩

set_option maxHeartbeats 4000000 in
set_option maxRecDepth 100000 in
theorem k_X4_kindByCode {K : KX} {d : Nat} {μ : Int → ME} {v : Int} : Ct K (d) yX4_kindByCode cX4_kindByCode 1 (some .int) [vI v] μ (pF (vI (if v = 98 then 0 else if v = 99 then 1 else if v = 115 then 2 else -9)) μ) := by
  refine Ct.of (by decide) (Nat.le_of_ble_eq_true rfl) (fun X C => ?_)
  refine p_iload_n (pc := 0) C dX4_kindByCode_0 rfl ?_
  by_cases s_1_98 : v = 98
  · refine p_look (pc := 1) (off := 35) (tgt := 36) C dX4_kindByCode_1 (by decide) (by rw [s_1_98]; rfl) (by decide) ?_
    refine p_iconst (pc := 36) C dX4_kindByCode_36 (by decide) ?_
    refine p_iret (pc := 37) C dX4_kindByCode_37 ?_
    exact ⟨sv (by split <;> first | omega | (split <;> first | omega | (split <;> omega))), rfl⟩
  by_cases s_1_99 : v = 99
  · refine p_look (pc := 1) (off := 37) (tgt := 38) C dX4_kindByCode_1 (by decide) (by rw [s_1_99]; rfl) (by decide) ?_
    refine p_iconst (pc := 38) C dX4_kindByCode_38 (by decide) ?_
    refine p_iret (pc := 39) C dX4_kindByCode_39 ?_
    exact ⟨sv (by split <;> first | omega | (split <;> first | omega | (split <;> omega))), rfl⟩
  by_cases s_1_115 : v = 115
  · refine p_look (pc := 1) (off := 39) (tgt := 40) C dX4_kindByCode_1 (by decide) (by rw [s_1_115]; rfl) (by decide) ?_
    refine p_iconst (pc := 40) C dX4_kindByCode_40 (by decide) ?_
    refine p_iret (pc := 41) C dX4_kindByCode_41 ?_
    exact ⟨sv (by split <;> first | omega | (split <;> first | omega | (split <;> omega))), rfl⟩
  refine p_look (pc := 1) (off := 41) (tgt := 42) C dX4_kindByCode_1 (by decide) (by show (if (98 : Int) = v then (35 : Int) else if (99 : Int) = v then (37 : Int) else if (115 : Int) = v then (39 : Int) else (41 : Int)) = (41 : Int); rw [if_neg (by omega), if_neg (by omega), if_neg (by omega)]) (by decide) ?_
  refine p_bipush (pc := 42) C dX4_kindByCode_42 (by decide) ?_
  refine p_iret (pc := 44) C dX4_kindByCode_44 ?_
  exact ⟨sv (by split <;> first | omega | (split <;> first | omega | (split <;> omega))), rfl⟩

set_option maxHeartbeats 4000000 in
set_option maxRecDepth 100000 in
theorem k_X4_cutTo {K : KX} {d : Nat} {μ : Int → ME} {ln v : Int} : Ct K (d) yX4_cutTo cX4_cutTo 2 (some .int) [vI ln, vI v] μ (pF (vI (if ln = 0 then i2b v else if ln = 1 then i2s v else v)) μ) := by
  refine Ct.of (by decide) (Nat.le_of_ble_eq_true rfl) (fun X C => ?_)
  refine p_iload_n (pc := 0) C dX4_cutTo_0 rfl ?_
  by_cases s_1_0 : ln = 0
  · refine p_look (pc := 1) (off := 27) (tgt := 28) C dX4_cutTo_1 (by decide) (by rw [s_1_0]; rfl) (by decide) ?_
    refine p_iload_n (pc := 28) C dX4_cutTo_28 rfl ?_
    refine p_i2b (pc := 29) C dX4_cutTo_29 ?_
    refine p_iret (pc := 30) C dX4_cutTo_30 ?_
    exact ⟨sv (by first | rw [if_pos (by omega)] | rw [if_neg (by omega), if_pos (by omega)] | rw [if_neg (by omega), if_neg (by omega)]), rfl⟩
  by_cases s_1_1 : ln = 1
  · refine p_look (pc := 1) (off := 30) (tgt := 31) C dX4_cutTo_1 (by decide) (by rw [s_1_1]; rfl) (by decide) ?_
    refine p_iload_n (pc := 31) C dX4_cutTo_31 rfl ?_
    refine p_i2s (pc := 32) C dX4_cutTo_32 ?_
    refine p_iret (pc := 33) C dX4_cutTo_33 ?_
    exact ⟨sv (by first | rw [if_pos (by omega)] | rw [if_neg (by omega), if_pos (by omega)] | rw [if_neg (by omega), if_neg (by omega)]), rfl⟩
  refine p_look (pc := 1) (off := 33) (tgt := 34) C dX4_cutTo_1 (by decide) (by show (if (0 : Int) = ln then (27 : Int) else if (1 : Int) = ln then (30 : Int) else (33 : Int)) = (33 : Int); rw [if_neg (by omega), if_neg (by omega)]) (by decide) ?_
  refine p_iload_n (pc := 34) C dX4_cutTo_34 rfl ?_
  refine p_iret (pc := 35) C dX4_cutTo_35 ?_
  exact ⟨sv (by first | rw [if_pos (by omega)] | rw [if_neg (by omega), if_pos (by omega)] | rw [if_neg (by omega), if_neg (by omega)]), rfl⟩

set_option maxHeartbeats 4000000 in
set_option maxRecDepth 100000 in
theorem k_X4_isShip {K : KX} {d : Nat} {μ : Int → ME} {k : Int} {np ns day nr tr fl : Int} (h0 : μ 0 = oY np ns day nr tr fl) : Ct K (d + 1) yX4_isShip cX4_isShip 2 (some .boolean) [vR 0, vI k] μ (pF (vI (if 0 ≤ k ∧ k < ns then 1 else 0)) μ) := by
  refine Ct.of (by decide) (Nat.le_of_ble_eq_true rfl) (fun X C => ?_)
  refine p_iload_n (pc := 0) C dX4_isShip_0 rfl ?_
  refine p_aload_n (pc := 1) C dX4_isShip_1 rfl ?_
  refine p_get (pc := 2) C fl_X4_86 dX4_isShip_2 ⟨by omega, by omega⟩ (by assumption) (by rfl) ?_
  refine p_callSF (pc := 5) C ln_X4_66 dX4_isShip_5 (k_X4_isBelow) rfl rfl (Nat.le_of_ble_eq_true rfl) ?_
  refine p_zret (pc := 8) C dX4_isShip_8 (by first | exact Or.inl rfl | exact Or.inr rfl | (split <;> simp)) ?_
  exact ⟨by first | rfl | (rw [if_pos (by omega)]) | (rw [if_neg (by omega)]) | (congr 2; omega), rfl⟩

set_option maxHeartbeats 4000000 in
set_option maxRecDepth 100000 in
theorem k_X4_isPort {K : KX} {d : Nat} {μ : Int → ME} {k : Int} {np ns day nr tr fl : Int} (h0 : μ 0 = oY np ns day nr tr fl) : Ct K (d + 1) yX4_isPort cX4_isPort 2 (some .boolean) [vR 0, vI k] μ (pF (vI (if 0 ≤ k ∧ k < np then 1 else 0)) μ) := by
  refine Ct.of (by decide) (Nat.le_of_ble_eq_true rfl) (fun X C => ?_)
  refine p_iload_n (pc := 0) C dX4_isPort_0 rfl ?_
  refine p_aload_n (pc := 1) C dX4_isPort_1 rfl ?_
  refine p_get (pc := 2) C fl_X4_162 dX4_isPort_2 ⟨by omega, by omega⟩ (by assumption) (by rfl) ?_
  refine p_callSF (pc := 5) C ln_X4_66 dX4_isPort_5 (k_X4_isBelow) rfl rfl (Nat.le_of_ble_eq_true rfl) ?_
  refine p_zret (pc := 8) C dX4_isPort_8 (by first | exact Or.inl rfl | exact Or.inr rfl | (split <;> simp)) ?_
  exact ⟨by first | rfl | (rw [if_pos (by omega)]) | (rw [if_neg (by omega)]) | (congr 2; omega), rfl⟩

set_option maxHeartbeats 4000000 in
set_option maxRecDepth 100000 in
theorem k_X4_hasSea {K : KX} {d : Nat} {μ : Int → ME} {np ns day nr tr fl : Int} (h0 : μ 0 = oY np ns day nr tr fl) : Ct K (d) yX4_hasSea cX4_hasSea 1 (some .boolean) [vR 0] μ (pF (vI (if 0 < ns then 1 else 0)) μ) := by
  refine Ct.of (by decide) (Nat.le_of_ble_eq_true rfl) (fun X C => ?_)
  refine p_aload_n (pc := 0) C dX4_hasSea_0 rfl ?_
  refine p_get (pc := 1) C fl_X4_86 dX4_hasSea_1 ⟨by omega, by omega⟩ (by assumption) (by rfl) ?_
  refine p_if_le (pc := 4) (tgt := 11) C dX4_hasSea_4 (by decide) (fun c_4 => ?_) (fun c_4 => ?_)
  · refine p_iconst (pc := 11) C dX4_hasSea_11 (by decide) ?_
    refine p_zret (pc := 12) C dX4_hasSea_12 (by first | exact Or.inl rfl | exact Or.inr rfl | (split <;> simp)) ?_
    exact ⟨by first | rfl | (rw [if_pos (by omega)]) | (rw [if_neg (by omega)]) | (congr 2; omega), rfl⟩
  · refine p_iconst (pc := 7) C dX4_hasSea_7 (by decide) ?_
    refine p_goto (pc := 8) (tgt := 12) C dX4_hasSea_8 (by decide) ?_
    refine p_zret (pc := 12) C dX4_hasSea_12 (by first | exact Or.inl rfl | exact Or.inr rfl | (split <;> simp)) ?_
    exact ⟨by first | rfl | (rw [if_pos (by omega)]) | (rw [if_neg (by omega)]) | (congr 2; omega), rfl⟩

set_option maxHeartbeats 4000000 in
set_option maxRecDepth 100000 in
theorem k_X4_portBehind {K : KX} {d : Nat} {μ : Int → ME} {p : Int} (hp : 0 ≤ p ∧ p ≤ 100) {np ns day nr tr fl : Int} (h0 : μ 0 = oY np ns day nr tr fl) : Ct K (d) yX4_portBehind cX4_portBehind 2 (some .int) [vR 0, vI p] μ (pF (vI (if p + 1 < np then p + 1 else 0)) μ) := by
  refine Ct.of (by decide) (Nat.le_of_ble_eq_true rfl) (fun X C => ?_)
  refine p_iload_n (pc := 0) C dX4_portBehind_0 rfl ?_
  refine p_iconst (pc := 1) C dX4_portBehind_1 (by decide) ?_
  refine p_iadd (pc := 2) C dX4_portBehind_2 ⟨by omega, by omega⟩ ?_
  refine p_aload_n (pc := 3) C dX4_portBehind_3 rfl ?_
  refine p_get (pc := 4) C fl_X4_162 dX4_portBehind_4 ⟨by omega, by omega⟩ (by assumption) (by rfl) ?_
  refine p_icmp_ge (pc := 7) (tgt := 16) C dX4_portBehind_7 (by decide) (fun c_7 => ?_) (fun c_7 => ?_)
  · refine p_iconst (pc := 16) C dX4_portBehind_16 (by decide) ?_
    refine p_iret (pc := 17) C dX4_portBehind_17 ?_
    exact ⟨by first | rfl | (rw [if_pos (by omega)]) | (rw [if_neg (by omega)]) | (congr 2; omega), rfl⟩
  · refine p_iload_n (pc := 10) C dX4_portBehind_10 rfl ?_
    refine p_iconst (pc := 11) C dX4_portBehind_11 (by decide) ?_
    refine p_iadd (pc := 12) C dX4_portBehind_12 ⟨by omega, by omega⟩ ?_
    refine p_goto (pc := 13) (tgt := 17) C dX4_portBehind_13 (by decide) ?_
    refine p_iret (pc := 17) C dX4_portBehind_17 ?_
    exact ⟨by first | rfl | (rw [if_pos (by omega)]) | (rw [if_neg (by omega)]) | (congr 2; omega), rfl⟩

set_option maxHeartbeats 4000000 in
set_option maxRecDepth 100000 in
theorem k_X4_faulted {K : KX} {d : Nat} {μ : Int → ME} {v : Int} (hv : 0 ≤ v ∧ v ≤ 100) {np ns day nr tr fl : Int} (h0 : μ 0 = oY np ns day nr tr fl) : Ct K (d) yX4_faulted cX4_faulted 2 (some .int) [vR 0, vI v] μ (pF (vI (-10 - v)) (mup μ 0 (oY np ns day nr tr v))) := by
  refine Ct.of (by decide) (Nat.le_of_ble_eq_true rfl) (fun X C => ?_)
  refine p_aload_n (pc := 0) C dX4_faulted_0 rfl ?_
  refine p_iload_n (pc := 1) C dX4_faulted_1 rfl ?_
  refine p_put (pc := 2) C fp_X4_58 dX4_faulted_2 ⟨by omega, by omega⟩ (by assumption) (by exact Nat.le_of_ble_eq_true rfl) ?_
  refine p_bipush (pc := 5) C dX4_faulted_5 (by decide) ?_
  refine p_iload_n (pc := 7) C dX4_faulted_7 rfl ?_
  refine p_isub (pc := 8) C dX4_faulted_8 ⟨by omega, by omega⟩ ?_
  refine p_iret (pc := 9) C dX4_faulted_9 ?_
  exact ⟨by first | rfl | (rw [if_pos (by omega)]) | (rw [if_neg (by omega)]) | (congr 2; omega), rfl⟩

set_option maxHeartbeats 4000000 in
set_option maxRecDepth 100000 in
theorem k_X4_leave {K : KX} {d : Nat} {μ : Int → ME} {v : Int} {np ns day nr tr fl : Int} (h0 : μ 0 = oY np ns day nr tr fl) : Ct K (d) yX4_leave cX4_leave 2 none [vR 0, vI v] μ (pU (mup μ 0 (oY np ns day nr (iwr (iwr (31 * tr) + v)) fl))) := by
  refine Ct.of (by decide) (Nat.le_of_ble_eq_true rfl) (fun X C => ?_)
  refine p_aload_n (pc := 0) C dX4_leave_0 rfl ?_
  refine p_bipush (pc := 1) C dX4_leave_1 (by decide) ?_
  refine p_aload_n (pc := 3) C dX4_leave_3 rfl ?_
  refine p_get (pc := 4) C fl_X4_255 dX4_leave_4 ⟨by omega, by omega⟩ (by assumption) (by rfl) ?_
  refine p_imulw (pc := 7) C dX4_leave_7 ?_
  refine p_iload_n (pc := 8) C dX4_leave_8 rfl ?_
  refine p_iaddw (pc := 9) C dX4_leave_9 ?_
  refine p_put (pc := 10) C fp_X4_255 dX4_leave_10 ⟨by omega, by omega⟩ (by assumption) (by exact Nat.le_of_ble_eq_true rfl) ?_
  refine p_vret (pc := 13) C dX4_leave_13 ?_
  exact ⟨rfl, rfl⟩

set_option maxHeartbeats 4000000 in
set_option maxRecDepth 100000 in
theorem k_X1_bearing {K : KX} {d : Nat} {μ : Int → ME} {a c kd nm sg pt : Int} (ha : IR a) (h1 : μ a = oS kd nm sg pt c) (hs : 0 ≤ sg ∧ sg ≤ 1000) : Ct K (d + 1) yX1_bearing cX1_bearing 1 (some .int) [vR a] μ (pF (vI (brg kd sg)) μ) := by
  refine Ct.of (by decide) (Nat.le_of_ble_eq_true rfl) (fun X C => ?_)
  refine p_aload_n (pc := 0) C dX1_bearing_0 rfl ?_
  refine p_get (pc := 1) C fl_X1_15 dX1_bearing_1 ⟨by omega, by omega⟩ (by assumption) (by rfl) ?_
  refine p_aload_n (pc := 4) C dX1_bearing_4 rfl ?_
  refine p_get (pc := 5) C fl_X1_19 dX1_bearing_5 ⟨by omega, by omega⟩ (by assumption) (by rfl) ?_
  refine p_callNF (pc := 8) C ln_X1_22 dX1_bearing_8 (k_X4_bearingOf (by omega)) rfl rfl (Nat.le_of_ble_eq_true rfl) ?_
  refine p_iret (pc := 11) C dX1_bearing_11 ?_
  exact ⟨by first | rfl | (rw [if_pos (by omega)]) | (rw [if_neg (by omega)]) | (congr 2; omega), rfl⟩

set_option maxHeartbeats 4000000 in
set_option maxRecDepth 100000 in
theorem k_X1_isMet {K : KX} {d : Nat} {μ : Int → ME} {a c kd nm sg pt : Int} (ha : IR a) (h1 : μ a = oS kd nm sg pt c) {f : Int → Int} (hc : IR c) (h2 : μ c = mA 4 f) (hn : 0 ≤ nm ∧ nm < 4) : Ct K (d) yX1_isMet cX1_isMet 1 (some .boolean) [vR a] μ (pF (vI (if f nm = 0 then 1 else 0)) μ) := by
  refine Ct.of (by decide) (Nat.le_of_ble_eq_true rfl) (fun X C => ?_)
  refine p_aload_n (pc := 0) C dX1_isMet_0 rfl ?_
  refine p_get (pc := 1) C fl_X1_9 dX1_isMet_1 (by first | exact ha | exact hc) (by assumption) (by rfl) ?_
  refine p_aload_n (pc := 4) C dX1_isMet_4 rfl ?_
  refine p_get (pc := 5) C fl_X1_26 dX1_isMet_5 (by first | exact ha | exact hc) (by assumption) (by rfl) ?_
  refine p_iald (pc := 8) C dX1_isMet_8 (by first | exact ha | exact hc) (by assumption) (by omega) ?_
  refine p_if_ne (pc := 9) (tgt := 16) C dX1_isMet_9 (by decide) (fun c_9 => ?_) (fun c_9 => ?_)
  · refine p_iconst (pc := 16) C dX1_isMet_16 (by decide) ?_
    refine p_zret (pc := 17) C dX1_isMet_17 (by first | exact Or.inl rfl | exact Or.inr rfl | (split <;> simp)) ?_
    exact ⟨by first | rfl | (rw [if_pos (by omega)]) | (rw [if_neg (by omega)]) | (congr 2; omega), rfl⟩
  · refine p_iconst (pc := 12) C dX1_isMet_12 (by decide) ?_
    refine p_goto (pc := 13) (tgt := 17) C dX1_isMet_13 (by decide) ?_
    refine p_zret (pc := 17) C dX1_isMet_17 (by first | exact Or.inl rfl | exact Or.inr rfl | (split <;> simp)) ?_
    exact ⟨by first | rfl | (rw [if_pos (by omega)]) | (rw [if_neg (by omega)]) | (congr 2; omega), rfl⟩

set_option maxHeartbeats 4000000 in
set_option maxRecDepth 100000 in
theorem k_X1_worth {K : KX} {d : Nat} {μ : Int → ME} {a c kd nm sg pt : Int} (ha : IR a) (h1 : μ a = oS kd nm sg pt c) {f : Int → Int} (hc : IR c) (h2 : μ c = mA 4 f) (hb : bd4 f 100) : Ct K (d + 2) yX1_worth cX1_worth 1 (some .int) [vR a] μ (pF (vI (wor f)) μ) := by
  refine Ct.of (by decide) (Nat.le_of_ble_eq_true rfl) (fun X C => ?_)
  refine p_aload_n (pc := 0) C dX1_worth_0 rfl ?_
  refine p_get (pc := 1) C fl_X1_9 dX1_worth_1 ha (by assumption) (by rfl) ?_
  refine p_callNF (pc := 4) C ln_X1_29 dX1_worth_4 (k_X4_worthOfAll hc h2 hb) rfl rfl (Nat.le_of_ble_eq_true rfl) ?_
  refine p_iret (pc := 7) C dX1_worth_7 ?_
  exact ⟨by first | rfl | (rw [if_pos (by omega)]) | (rw [if_neg (by omega)]) | (congr 2; omega), rfl⟩

set_option maxHeartbeats 4000000 in
set_option maxRecDepth 100000 in
theorem k_X1_pieces {K : KX} {d : Nat} {μ : Int → ME} {a c kd nm sg pt : Int} (ha : IR a) (h1 : μ a = oS kd nm sg pt c) {f : Int → Int} (hc : IR c) (h2 : μ c = mA 4 f) (hb : bd4 f 100) : Ct K (d) yX1_pieces cX1_pieces 3 (some .int) [vR a] μ (pF (vI (pcs f)) μ) := by
  refine Ct.of (by decide) (Nat.le_of_ble_eq_true rfl) (fun X C => ?_)
  obtain ⟨⟨b0, b1⟩, ⟨b2, b3⟩, ⟨b4, b5⟩, ⟨b6, b7⟩⟩ := hb
  refine p_iconst (pc := 0) C dX1_pieces_0 (by decide) ?_
  refine p_istore_n (pc := 1) (ls' := [(1, _), (0, _)]) C dX1_pieces_1 (by decide) rfl ?_
  refine p_iconst (pc := 2) C dX1_pieces_2 (by decide) ?_
  refine p_istore_n (pc := 3) (ls' := [(2, _), (1, _), (0, _)]) C dX1_pieces_3 (by decide) rfl ?_
  refine p_iload_n (pc := 4) C dX1_pieces_4 rfl ?_
  refine p_iconst (pc := 5) C dX1_pieces_5 (by decide) ?_
  refine p_icmp_ge (pc := 6) (tgt := 24) C dX1_pieces_6 (by decide) (fun h => absurd h (by decide)) (fun c_6 => ?_)
  refine p_iload_n (pc := 9) C dX1_pieces_9 rfl ?_
  refine p_aload_n (pc := 10) C dX1_pieces_10 rfl ?_
  refine p_get (pc := 11) C fl_X1_9 dX1_pieces_11 (by first | exact ha | exact hc) (by assumption) (by rfl) ?_
  refine p_iload_n (pc := 14) C dX1_pieces_14 rfl ?_
  refine p_iald (pc := 15) C dX1_pieces_15 (by first | exact ha | exact hc) (by assumption) (by omega) ?_
  refine p_iadd (pc := 16) C dX1_pieces_16 ⟨by omega, by omega⟩ ?_
  refine p_istore_n (pc := 17) (ls' := [(1, _), (2, _), (0, _)]) C dX1_pieces_17 (by decide) rfl ?_
  refine p_iincC (pc := 18) (w := 1) (ls' := [(2, _), (1, _), (0, _)]) C dX1_pieces_18 (by decide) rfl (by decide) (by decide) rfl ?_
  refine p_goto (pc := 21) (tgt := 4) C dX1_pieces_21 (by decide) ?_
  refine p_iload_n (pc := 4) C dX1_pieces_4 rfl ?_
  refine p_iconst (pc := 5) C dX1_pieces_5 (by decide) ?_
  refine p_icmp_ge (pc := 6) (tgt := 24) C dX1_pieces_6 (by decide) (fun h => absurd h (by decide)) (fun c_6 => ?_)
  refine p_iload_n (pc := 9) C dX1_pieces_9 rfl ?_
  refine p_aload_n (pc := 10) C dX1_pieces_10 rfl ?_
  refine p_get (pc := 11) C fl_X1_9 dX1_pieces_11 (by first | exact ha | exact hc) (by assumption) (by rfl) ?_
  refine p_iload_n (pc := 14) C dX1_pieces_14 rfl ?_
  refine p_iald (pc := 15) C dX1_pieces_15 (by first | exact ha | exact hc) (by assumption) (by omega) ?_
  refine p_iadd (pc := 16) C dX1_pieces_16 ⟨by omega, by omega⟩ ?_
  refine p_istore_n (pc := 17) (ls' := [(1, _), (2, _), (0, _)]) C dX1_pieces_17 (by decide) rfl ?_
  refine p_iincC (pc := 18) (w := 2) (ls' := [(2, _), (1, _), (0, _)]) C dX1_pieces_18 (by decide) rfl (by decide) (by decide) rfl ?_
  refine p_goto (pc := 21) (tgt := 4) C dX1_pieces_21 (by decide) ?_
  refine p_iload_n (pc := 4) C dX1_pieces_4 rfl ?_
  refine p_iconst (pc := 5) C dX1_pieces_5 (by decide) ?_
  refine p_icmp_ge (pc := 6) (tgt := 24) C dX1_pieces_6 (by decide) (fun h => absurd h (by decide)) (fun c_6 => ?_)
  refine p_iload_n (pc := 9) C dX1_pieces_9 rfl ?_
  refine p_aload_n (pc := 10) C dX1_pieces_10 rfl ?_
  refine p_get (pc := 11) C fl_X1_9 dX1_pieces_11 (by first | exact ha | exact hc) (by assumption) (by rfl) ?_
  refine p_iload_n (pc := 14) C dX1_pieces_14 rfl ?_
  refine p_iald (pc := 15) C dX1_pieces_15 (by first | exact ha | exact hc) (by assumption) (by omega) ?_
  refine p_iadd (pc := 16) C dX1_pieces_16 ⟨by omega, by omega⟩ ?_
  refine p_istore_n (pc := 17) (ls' := [(1, _), (2, _), (0, _)]) C dX1_pieces_17 (by decide) rfl ?_
  refine p_iincC (pc := 18) (w := 3) (ls' := [(2, _), (1, _), (0, _)]) C dX1_pieces_18 (by decide) rfl (by decide) (by decide) rfl ?_
  refine p_goto (pc := 21) (tgt := 4) C dX1_pieces_21 (by decide) ?_
  refine p_iload_n (pc := 4) C dX1_pieces_4 rfl ?_
  refine p_iconst (pc := 5) C dX1_pieces_5 (by decide) ?_
  refine p_icmp_ge (pc := 6) (tgt := 24) C dX1_pieces_6 (by decide) (fun h => absurd h (by decide)) (fun c_6 => ?_)
  refine p_iload_n (pc := 9) C dX1_pieces_9 rfl ?_
  refine p_aload_n (pc := 10) C dX1_pieces_10 rfl ?_
  refine p_get (pc := 11) C fl_X1_9 dX1_pieces_11 (by first | exact ha | exact hc) (by assumption) (by rfl) ?_
  refine p_iload_n (pc := 14) C dX1_pieces_14 rfl ?_
  refine p_iald (pc := 15) C dX1_pieces_15 (by first | exact ha | exact hc) (by assumption) (by omega) ?_
  refine p_iadd (pc := 16) C dX1_pieces_16 ⟨by omega, by omega⟩ ?_
  refine p_istore_n (pc := 17) (ls' := [(1, _), (2, _), (0, _)]) C dX1_pieces_17 (by decide) rfl ?_
  refine p_iincC (pc := 18) (w := 4) (ls' := [(2, _), (1, _), (0, _)]) C dX1_pieces_18 (by decide) rfl (by decide) (by decide) rfl ?_
  refine p_goto (pc := 21) (tgt := 4) C dX1_pieces_21 (by decide) ?_
  refine p_iload_n (pc := 4) C dX1_pieces_4 rfl ?_
  refine p_iconst (pc := 5) C dX1_pieces_5 (by decide) ?_
  refine p_icmp_ge (pc := 6) (tgt := 24) C dX1_pieces_6 (by decide) (fun c_6 => ?_) (fun h => absurd h (by decide))
  refine p_iload_n (pc := 24) C dX1_pieces_24 rfl ?_
  refine p_iret (pc := 25) C dX1_pieces_25 ?_
  exact ⟨sv (by first | rfl | (simp only [brg, wor, pcs, gtg]; omega)), rfl⟩

set_option maxHeartbeats 4000000 in
set_option maxRecDepth 100000 in
theorem k_X1_goodThatGoes {K : KX} {d : Nat} {μ : Int → ME} {a c kd nm sg pt : Int} (ha : IR a) (h1 : μ a = oS kd nm sg pt c) {f : Int → Int} (hc : IR c) (h2 : μ c = mA 4 f) (hn : 0 ≤ nm ∧ nm < 4) : Ct K (d + 1) yX1_goodThatGoes cX1_goodThatGoes 2 (some .int) [vR a] μ (pF (vI (gtg f nm)) μ) := by
  refine Ct.of (by decide) (Nat.le_of_ble_eq_true rfl) (fun X C => ?_)
  refine p_aload_n (pc := 0) C dX1_goodThatGoes_0 rfl ?_
  refine p_callVF (pc := 1) C ln_X1_33 dX1_goodThatGoes_1 (k_X1_isMet ha h1 hc h2 hn) (by first | exact ha | exact hc) (by assumption) rfl rfl rfl rfl (Nat.le_of_ble_eq_true rfl) ?_
  refine p_ifne_b (pc := 4) (tgt := 12) C dX1_goodThatGoes_4 (by decide) (fun c_4 => ?_) (fun c_4 => ?_)
  · refine p_iconst (pc := 12) C dX1_goodThatGoes_12 (by decide) ?_
    refine p_istore_n (pc := 13) (ls' := [(1, _), (0, _)]) C dX1_goodThatGoes_13 (by decide) rfl ?_
    refine p_iload_n (pc := 14) C dX1_goodThatGoes_14 rfl ?_
    refine p_iconst (pc := 15) C dX1_goodThatGoes_15 (by decide) ?_
    refine p_icmp_ge (pc := 16) (tgt := 36) C dX1_goodThatGoes_16 (by decide) (fun h => absurd h (by decide)) (fun c_16 => ?_)
    refine p_aload_n (pc := 19) C dX1_goodThatGoes_19 rfl ?_
    refine p_get (pc := 20) C fl_X1_9 dX1_goodThatGoes_20 (by first | exact ha | exact hc) (by assumption) (by rfl) ?_
    refine p_iload_n (pc := 23) C dX1_goodThatGoes_23 rfl ?_
    refine p_iald (pc := 24) C dX1_goodThatGoes_24 (by first | exact ha | exact hc) (by assumption) (by omega) ?_
    refine p_if_le (pc := 25) (tgt := 30) C dX1_goodThatGoes_25 (by decide) (fun c_25 => ?_) (fun c_25 => ?_)
    · refine p_iincC (pc := 30) (w := 1) (ls' := [(1, _), (0, _)]) C dX1_goodThatGoes_30 (by decide) rfl (by decide) (by decide) rfl ?_
      refine p_goto (pc := 33) (tgt := 14) C dX1_goodThatGoes_33 (by decide) ?_
      refine p_iload_n (pc := 14) C dX1_goodThatGoes_14 rfl ?_
      refine p_iconst (pc := 15) C dX1_goodThatGoes_15 (by decide) ?_
      refine p_icmp_ge (pc := 16) (tgt := 36) C dX1_goodThatGoes_16 (by decide) (fun h => absurd h (by decide)) (fun c_16 => ?_)
      refine p_aload_n (pc := 19) C dX1_goodThatGoes_19 rfl ?_
      refine p_get (pc := 20) C fl_X1_9 dX1_goodThatGoes_20 (by first | exact ha | exact hc) (by assumption) (by rfl) ?_
      refine p_iload_n (pc := 23) C dX1_goodThatGoes_23 rfl ?_
      refine p_iald (pc := 24) C dX1_goodThatGoes_24 (by first | exact ha | exact hc) (by assumption) (by omega) ?_
      refine p_if_le (pc := 25) (tgt := 30) C dX1_goodThatGoes_25 (by decide) (fun c_25 => ?_) (fun c_25 => ?_)
      · refine p_iincC (pc := 30) (w := 2) (ls' := [(1, _), (0, _)]) C dX1_goodThatGoes_30 (by decide) rfl (by decide) (by decide) rfl ?_
        refine p_goto (pc := 33) (tgt := 14) C dX1_goodThatGoes_33 (by decide) ?_
        refine p_iload_n (pc := 14) C dX1_goodThatGoes_14 rfl ?_
        refine p_iconst (pc := 15) C dX1_goodThatGoes_15 (by decide) ?_
        refine p_icmp_ge (pc := 16) (tgt := 36) C dX1_goodThatGoes_16 (by decide) (fun h => absurd h (by decide)) (fun c_16 => ?_)
        refine p_aload_n (pc := 19) C dX1_goodThatGoes_19 rfl ?_
        refine p_get (pc := 20) C fl_X1_9 dX1_goodThatGoes_20 (by first | exact ha | exact hc) (by assumption) (by rfl) ?_
        refine p_iload_n (pc := 23) C dX1_goodThatGoes_23 rfl ?_
        refine p_iald (pc := 24) C dX1_goodThatGoes_24 (by first | exact ha | exact hc) (by assumption) (by omega) ?_
        refine p_if_le (pc := 25) (tgt := 30) C dX1_goodThatGoes_25 (by decide) (fun c_25 => ?_) (fun c_25 => ?_)
        · refine p_iincC (pc := 30) (w := 3) (ls' := [(1, _), (0, _)]) C dX1_goodThatGoes_30 (by decide) rfl (by decide) (by decide) rfl ?_
          refine p_goto (pc := 33) (tgt := 14) C dX1_goodThatGoes_33 (by decide) ?_
          refine p_iload_n (pc := 14) C dX1_goodThatGoes_14 rfl ?_
          refine p_iconst (pc := 15) C dX1_goodThatGoes_15 (by decide) ?_
          refine p_icmp_ge (pc := 16) (tgt := 36) C dX1_goodThatGoes_16 (by decide) (fun h => absurd h (by decide)) (fun c_16 => ?_)
          refine p_aload_n (pc := 19) C dX1_goodThatGoes_19 rfl ?_
          refine p_get (pc := 20) C fl_X1_9 dX1_goodThatGoes_20 (by first | exact ha | exact hc) (by assumption) (by rfl) ?_
          refine p_iload_n (pc := 23) C dX1_goodThatGoes_23 rfl ?_
          refine p_iald (pc := 24) C dX1_goodThatGoes_24 (by first | exact ha | exact hc) (by assumption) (by omega) ?_
          refine p_if_le (pc := 25) (tgt := 30) C dX1_goodThatGoes_25 (by decide) (fun c_25 => ?_) (fun c_25 => ?_)
          · refine p_iincC (pc := 30) (w := 4) (ls' := [(1, _), (0, _)]) C dX1_goodThatGoes_30 (by decide) rfl (by decide) (by decide) rfl ?_
            refine p_goto (pc := 33) (tgt := 14) C dX1_goodThatGoes_33 (by decide) ?_
            refine p_iload_n (pc := 14) C dX1_goodThatGoes_14 rfl ?_
            refine p_iconst (pc := 15) C dX1_goodThatGoes_15 (by decide) ?_
            refine p_icmp_ge (pc := 16) (tgt := 36) C dX1_goodThatGoes_16 (by decide) (fun c_16 => ?_) (fun h => absurd h (by decide))
            refine p_bipush (pc := 36) C dX1_goodThatGoes_36 (by decide) ?_
            refine p_iret (pc := 38) C dX1_goodThatGoes_38 ?_
            exact ⟨sv (by unfold gtg; repeat (split; all_goals first | omega | skip)), rfl⟩
          · refine p_iload_n (pc := 28) C dX1_goodThatGoes_28 rfl ?_
            refine p_iret (pc := 29) C dX1_goodThatGoes_29 ?_
            exact ⟨sv (by unfold gtg; repeat (split; all_goals first | omega | skip)), rfl⟩
        · refine p_iload_n (pc := 28) C dX1_goodThatGoes_28 rfl ?_
          refine p_iret (pc := 29) C dX1_goodThatGoes_29 ?_
          exact ⟨sv (by unfold gtg; repeat (split; all_goals first | omega | skip)), rfl⟩
      · refine p_iload_n (pc := 28) C dX1_goodThatGoes_28 rfl ?_
        refine p_iret (pc := 29) C dX1_goodThatGoes_29 ?_
        exact ⟨sv (by unfold gtg; repeat (split; all_goals first | omega | skip)), rfl⟩
    · refine p_iload_n (pc := 28) C dX1_goodThatGoes_28 rfl ?_
      refine p_iret (pc := 29) C dX1_goodThatGoes_29 ?_
      exact ⟨sv (by unfold gtg; repeat (split; all_goals first | omega | skip)), rfl⟩
  · refine p_aload_n (pc := 7) C dX1_goodThatGoes_7 rfl ?_
    refine p_get (pc := 8) C fl_X1_26 dX1_goodThatGoes_8 (by first | exact ha | exact hc) (by assumption) (by rfl) ?_
    refine p_iret (pc := 11) C dX1_goodThatGoes_11 ?_
    exact ⟨sv (by unfold gtg; repeat (split; all_goals first | omega | skip)), rfl⟩
end
section
theorem mup_mup (μ : Int → ME) (a : Int) (o o' : ME) : mup (mup μ a o) a o' = mup μ a o' := by
  funext j; unfold mup; split <;> rfl
theorem mup_id {μ : Int → ME} {a : Int} {o : ME} (h : μ a = o) : mup μ a o = μ := by
  funext j; unfold mup; split
  · rename_i e; rw [e, h]
  · rfl
theorem mup_comm (μ : Int → ME) {a b : Int} (o o' : ME) (h : a ≠ b) : mup (mup μ a o) b o' = mup (mup μ b o') a o := by
  funext j; unfold mup; split
  · rename_i e; rw [if_neg (by omega)]
  · rfl
section PMPUT
variable {K : KX} {X : CX} {nL d : Nat} {Q : State → Prop} {cc : ByteArray} {own : String} {ret : Option FieldType} {pc : Nat} {ls : List (Nat × PV)} {st : List PV} {μ : Int → ME}
theorem p_putL (C : okX K X cc own nL d ret) {idx ci k : Nat} {a z : Int} {fs fs' : List PV} (F : FP own idx ci k .int) (dg : decode cc pc = .ok (.putfield idx, 3)) (ha : IR a) (hm : μ a = mO ci fs) (hk : k < fs.length) (hf : fs.set k (vI z) = fs') (kk : PW K X nL Q (pc + 3) ls st (mup μ a (mO ci fs'))) : PW K X nL Q pc ls (vI z :: vR a :: st) μ := by
  subst hf; exact p_put C F dg ha hm hk kk
theorem p_putLZ (C : okX K X cc own nL d ret) {idx ci k : Nat} {a z : Int} {fs fs' : List PV} (F : FP own idx ci k .boolean) (dg : decode cc pc = .ok (.putfield idx, 3)) (ha : IR a) (hm : μ a = mO ci fs) (hk : k < fs.length) (hz : z = 0 ∨ z = 1) (hf : fs.set k (vI z) = fs') (kk : PW K X nL Q (pc + 3) ls st (mup μ a (mO ci fs'))) : PW K X nL Q pc ls (vI z :: vR a :: st) μ := by
  subst hf; exact p_putZ C F dg ha hm hk hz kk
/-- fewer locals, in any order -/
theorem p_pick (ks : List Nat) {ls' : List (Nat × PV)} (h : ks.filterMap (fun k => ls[k]?) = ls') (k : PW K X nL Q pc ls' st μ) : PW K X nL Q pc ls st μ := fun H locs la hP hS hl hμ hL hs => by
  have hsub : ∀ q ∈ ls', q ∈ ls := fun q hq => by
    rw [← h] at hq
    obtain ⟨i, -, hi⟩ := List.mem_filterMap.mp hq
    exact List.mem_of_getElem? hi
  refine k H locs la hP hS ⟨hl.1, hl.2.1, fun q hq => ?_⟩ hμ (fun q hq => hL q (hsub q hq)) hs
  obtain ⟨q0, h0, rfl⟩ := List.mem_map.mp hq
  exact hl.2.2 _ (List.mem_map.mpr ⟨q0, hsub q0 h0, rfl⟩)
end PMPUT
/-- the first fault of taking cells: there, lane, length; lane asked, from, how many -/
def fot (th ln le as i n : Int) : Int := if th ≠ 0 ∧ ln ≠ as then 2 else if th = 0 then 1 else if n < 0 then 4 else if (0 ≤ i ∧ i ≤ le) ∧ n ≤ le - i then 0 else 3
def cAt (le : Int) (f : Int → Int) (i : Int) : Int := if 0 ≤ i ∧ i < le then f i else -9
/-- zeros before n -/
def fz (f : Int → Int) (n : Int) : Int → Int := fun j => if 0 ≤ j ∧ j < n then 0 else f j

set_option maxHeartbeats 4000000 in
set_option maxRecDepth 100000 in
theorem k_X0_reaches {K : KX} {d : Nat} {μ : Int → ME} {i n : Int} {a c th ln le : Int} (ha : IR a) (h1 : μ a = oR th ln le c) (hl : 0 ≤ le ∧ le ≤ 60) : Ct K (d + 1) yX0_reaches cX0_reaches 3 (some .boolean) [vR a, vI i, vI n] μ (pF (vI (if (0 ≤ i ∧ i ≤ le) ∧ n ≤ le - i then 1 else 0)) μ) := by
  refine Ct.of (by decide) (Nat.le_of_ble_eq_true rfl) (fun X C => ?_)
  refine p_iload_n (pc := 0) C dX0_reaches_0 rfl ?_
  refine p_aload_n (pc := 1) C dX0_reaches_1 rfl ?_
  refine p_get (pc := 2) C fl_X0_23 dX0_reaches_2 ha (by assumption) (by rfl) ?_
  refine p_callNF (pc := 5) C ln_X0_26 dX0_reaches_5 (k_X4_isUpTo) rfl rfl (Nat.le_of_ble_eq_true rfl) ?_
  refine p_ifeq_b (pc := 8) (tgt := 25) C dX0_reaches_8 (by decide) (fun c_8 => ?_) (fun c_8 => ?_)
  · refine p_iconst (pc := 25) C dX0_reaches_25 (by decide) ?_
    refine p_zret (pc := 26) C dX0_reaches_26 (by first | exact Or.inl rfl | exact Or.inr rfl | (split <;> simp)) ?_
    exact ⟨by first | rfl | (rw [if_pos (by omega)]) | (rw [if_neg (by omega)]) | (congr 2; omega), rfl⟩
  · refine p_iload_n (pc := 11) C dX0_reaches_11 rfl ?_
    refine p_aload_n (pc := 12) C dX0_reaches_12 rfl ?_
    refine p_get (pc := 13) C fl_X0_23 dX0_reaches_13 ha (by assumption) (by rfl) ?_
    refine p_iload_n (pc := 16) C dX0_reaches_16 rfl ?_
    refine p_isub (pc := 17) C dX0_reaches_17 ⟨by omega, by omega⟩ ?_
    refine p_icmp_gt (pc := 18) (tgt := 25) C dX0_reaches_18 (by decide) (fun c_18 => ?_) (fun c_18 => ?_)
    · refine p_iconst (pc := 25) C dX0_reaches_25 (by decide) ?_
      refine p_zret (pc := 26) C dX0_reaches_26 (by first | exact Or.inl rfl | exact Or.inr rfl | (split <;> simp)) ?_
      exact ⟨by first | rfl | (rw [if_pos (by omega)]) | (rw [if_neg (by omega)]) | (congr 2; omega), rfl⟩
    · refine p_iconst (pc := 21) C dX0_reaches_21 (by decide) ?_
      refine p_goto (pc := 22) (tgt := 26) C dX0_reaches_22 (by decide) ?_
      refine p_zret (pc := 26) C dX0_reaches_26 (by first | exact Or.inl rfl | exact Or.inr rfl | (split <;> simp)) ?_
      exact ⟨by first | rfl | (rw [if_pos (by omega)]) | (rw [if_neg (by omega)]) | (congr 2; omega), rfl⟩

set_option maxHeartbeats 4000000 in
set_option maxRecDepth 100000 in
theorem k_X0_faultOfTaking {K : KX} {d : Nat} {μ : Int → ME} {l i n : Int} {a c th ln le : Int} (ha : IR a) (h1 : μ a = oR th ln le c) (hl : 0 ≤ le ∧ le ≤ 60) : Ct K (d + 2) yX0_faultOfTaking cX0_faultOfTaking 4 (some .int) [vR a, vI l, vI i, vI n] μ (pF (vI (fot th ln le l i n)) μ) := by
  refine Ct.of (by decide) (Nat.le_of_ble_eq_true rfl) (fun X C => ?_)
  refine p_aload_n (pc := 0) C dX0_faultOfTaking_0 rfl ?_
  refine p_get (pc := 1) C fl_X0_15 dX0_faultOfTaking_1 ha (by assumption) (by rfl) ?_
  refine p_if_eq (pc := 4) (tgt := 17) C dX0_faultOfTaking_4 (by decide) (fun c_4 => ?_) (fun c_4 => ?_)
  · refine p_aload_n (pc := 17) C dX0_faultOfTaking_17 rfl ?_
    refine p_get (pc := 18) C fl_X0_15 dX0_faultOfTaking_18 ha (by assumption) (by rfl) ?_
    refine p_if_ne (pc := 21) (tgt := 26) C dX0_faultOfTaking_21 (by decide) (fun c_21 => ?_) (fun c_21 => ?_)
    · refine p_iload_n (pc := 26) C dX0_faultOfTaking_26 rfl ?_
      refine p_if_ge (pc := 27) (tgt := 32) C dX0_faultOfTaking_27 (by decide) (fun c_27 => ?_) (fun c_27 => ?_)
      · refine p_aload_n (pc := 32) C dX0_faultOfTaking_32 rfl ?_
        refine p_iload_n (pc := 33) C dX0_faultOfTaking_33 rfl ?_
        refine p_iload_n (pc := 34) C dX0_faultOfTaking_34 rfl ?_
        refine p_callVF (pc := 35) C ln_X0_30 dX0_faultOfTaking_35 (k_X0_reaches ha h1 hl) ha (by assumption) rfl rfl rfl rfl (Nat.le_of_ble_eq_true rfl) ?_
        refine p_ifeq_b (pc := 38) (tgt := 45) C dX0_faultOfTaking_38 (by decide) (fun c_38 => ?_) (fun c_38 => ?_)
        · refine p_iconst (pc := 45) C dX0_faultOfTaking_45 (by decide) ?_
          refine p_iret (pc := 46) C dX0_faultOfTaking_46 ?_
          exact ⟨sv (by unfold fot; first | (exfalso; omega) | rw [if_pos (by omega)] | rw [if_neg (by omega), if_pos (by omega)] | rw [if_neg (by omega), if_neg (by omega), if_pos (by omega)] | rw [if_neg (by omega), if_neg (by omega), if_neg (by omega), if_pos (by omega)] | rw [if_neg (by omega), if_neg (by omega), if_neg (by omega), if_neg (by omega)]), rfl⟩
        · refine p_iconst (pc := 41) C dX0_faultOfTaking_41 (by decide) ?_
          refine p_goto (pc := 42) (tgt := 46) C dX0_faultOfTaking_42 (by decide) ?_
          refine p_iret (pc := 46) C dX0_faultOfTaking_46 ?_
          exact ⟨sv (by unfold fot; first | (exfalso; omega) | rw [if_pos (by omega)] | rw [if_neg (by omega), if_pos (by omega)] | rw [if_neg (by omega), if_neg (by omega), if_pos (by omega)] | rw [if_neg (by omega), if_neg (by omega), if_neg (by omega), if_pos (by omega)] | rw [if_neg (by omega), if_neg (by omega), if_neg (by omega), if_neg (by omega)]), rfl⟩
      · refine p_iconst (pc := 30) C dX0_faultOfTaking_30 (by decide) ?_
        refine p_iret (pc := 31) C dX0_faultOfTaking_31 ?_
        exact ⟨sv (by unfold fot; first | (exfalso; omega) | rw [if_pos (by omega)] | rw [if_neg (by omega), if_pos (by omega)] | rw [if_neg (by omega), if_neg (by omega), if_pos (by omega)] | rw [if_neg (by omega), if_neg (by omega), if_neg (by omega), if_pos (by omega)] | rw [if_neg (by omega), if_neg (by omega), if_neg (by omega), if_neg (by omega)]), rfl⟩
    · refine p_iconst (pc := 24) C dX0_faultOfTaking_24 (by decide) ?_
      refine p_iret (pc := 25) C dX0_faultOfTaking_25 ?_
      exact ⟨sv (by unfold fot; first | (exfalso; omega) | rw [if_pos (by omega)] | rw [if_neg (by omega), if_pos (by omega)] | rw [if_neg (by omega), if_neg (by omega), if_pos (by omega)] | rw [if_neg (by omega), if_neg (by omega), if_neg (by omega), if_pos (by omega)] | rw [if_neg (by omega), if_neg (by omega), if_neg (by omega), if_neg (by omega)]), rfl⟩
  · refine p_aload_n (pc := 7) C dX0_faultOfTaking_7 rfl ?_
    refine p_get (pc := 8) C fl_X0_19 dX0_faultOfTaking_8 ha (by assumption) (by rfl) ?_
    refine p_iload_n (pc := 11) C dX0_faultOfTaking_11 rfl ?_
    refine p_icmp_eq (pc := 12) (tgt := 17) C dX0_faultOfTaking_12 (by decide) (fun c_12 => ?_) (fun c_12 => ?_)
    · refine p_aload_n (pc := 17) C dX0_faultOfTaking_17 rfl ?_
      refine p_get (pc := 18) C fl_X0_15 dX0_faultOfTaking_18 ha (by assumption) (by rfl) ?_
      refine p_if_ne (pc := 21) (tgt := 26) C dX0_faultOfTaking_21 (by decide) (fun c_21 => ?_) (fun c_21 => ?_)
      · refine p_iload_n (pc := 26) C dX0_faultOfTaking_26 rfl ?_
        refine p_if_ge (pc := 27) (tgt := 32) C dX0_faultOfTaking_27 (by decide) (fun c_27 => ?_) (fun c_27 => ?_)
        · refine p_aload_n (pc := 32) C dX0_faultOfTaking_32 rfl ?_
          refine p_iload_n (pc := 33) C dX0_faultOfTaking_33 rfl ?_
          refine p_iload_n (pc := 34) C dX0_faultOfTaking_34 rfl ?_
          refine p_callVF (pc := 35) C ln_X0_30 dX0_faultOfTaking_35 (k_X0_reaches ha h1 hl) ha (by assumption) rfl rfl rfl rfl (Nat.le_of_ble_eq_true rfl) ?_
          refine p_ifeq_b (pc := 38) (tgt := 45) C dX0_faultOfTaking_38 (by decide) (fun c_38 => ?_) (fun c_38 => ?_)
          · refine p_iconst (pc := 45) C dX0_faultOfTaking_45 (by decide) ?_
            refine p_iret (pc := 46) C dX0_faultOfTaking_46 ?_
            exact ⟨sv (by unfold fot; first | (exfalso; omega) | rw [if_pos (by omega)] | rw [if_neg (by omega), if_pos (by omega)] | rw [if_neg (by omega), if_neg (by omega), if_pos (by omega)] | rw [if_neg (by omega), if_neg (by omega), if_neg (by omega), if_pos (by omega)] | rw [if_neg (by omega), if_neg (by omega), if_neg (by omega), if_neg (by omega)]), rfl⟩
          · refine p_iconst (pc := 41) C dX0_faultOfTaking_41 (by decide) ?_
            refine p_goto (pc := 42) (tgt := 46) C dX0_faultOfTaking_42 (by decide) ?_
            refine p_iret (pc := 46) C dX0_faultOfTaking_46 ?_
            exact ⟨sv (by unfold fot; first | (exfalso; omega) | rw [if_pos (by omega)] | rw [if_neg (by omega), if_pos (by omega)] | rw [if_neg (by omega), if_neg (by omega), if_pos (by omega)] | rw [if_neg (by omega), if_neg (by omega), if_neg (by omega), if_pos (by omega)] | rw [if_neg (by omega), if_neg (by omega), if_neg (by omega), if_neg (by omega)]), rfl⟩
        · refine p_iconst (pc := 30) C dX0_faultOfTaking_30 (by decide) ?_
          refine p_iret (pc := 31) C dX0_faultOfTaking_31 ?_
          exact ⟨sv (by unfold fot; first | (exfalso; omega) | rw [if_pos (by omega)] | rw [if_neg (by omega), if_pos (by omega)] | rw [if_neg (by omega), if_neg (by omega), if_pos (by omega)] | rw [if_neg (by omega), if_neg (by omega), if_neg (by omega), if_pos (by omega)] | rw [if_neg (by omega), if_neg (by omega), if_neg (by omega), if_neg (by omega)]), rfl⟩
      · refine p_iconst (pc := 24) C dX0_faultOfTaking_24 (by decide) ?_
        refine p_iret (pc := 25) C dX0_faultOfTaking_25 ?_
        exact ⟨sv (by unfold fot; first | (exfalso; omega) | rw [if_pos (by omega)] | rw [if_neg (by omega), if_pos (by omega)] | rw [if_neg (by omega), if_neg (by omega), if_pos (by omega)] | rw [if_neg (by omega), if_neg (by omega), if_neg (by omega), if_pos (by omega)] | rw [if_neg (by omega), if_neg (by omega), if_neg (by omega), if_neg (by omega)]), rfl⟩
    · refine p_iconst (pc := 15) C dX0_faultOfTaking_15 (by decide) ?_
      refine p_iret (pc := 16) C dX0_faultOfTaking_16 ?_
      exact ⟨sv (by unfold fot; first | (exfalso; omega) | rw [if_pos (by omega)] | rw [if_neg (by omega), if_pos (by omega)] | rw [if_neg (by omega), if_neg (by omega), if_pos (by omega)] | rw [if_neg (by omega), if_neg (by omega), if_neg (by omega), if_pos (by omega)] | rw [if_neg (by omega), if_neg (by omega), if_neg (by omega), if_neg (by omega)]), rfl⟩

set_option maxHeartbeats 4000000 in
set_option maxRecDepth 100000 in
theorem k_X0_codeAt {K : KX} {d : Nat} {μ : Int → ME} {i : Int} {a c th ln le : Int} (ha : IR a) (h1 : μ a = oR th ln le c) {f : Int → Int} (hc : IR c) (h2 : μ c = mA 60 f) (hl : 0 ≤ le ∧ le ≤ 60) : Ct K (d + 1) yX0_codeAt cX0_codeAt 2 (some .int) [vR a, vI i] μ (pF (vI (cAt le f i)) μ) := by
  refine Ct.of (by decide) (Nat.le_of_ble_eq_true rfl) (fun X C => ?_)
  refine p_iload_n (pc := 0) C dX0_codeAt_0 rfl ?_
  refine p_aload_n (pc := 1) C dX0_codeAt_1 rfl ?_
  refine p_get (pc := 2) C fl_X0_23 dX0_codeAt_2 (by first | exact ha | exact hc) (by assumption) (by rfl) ?_
  refine p_callNF (pc := 5) C ln_X0_33 dX0_codeAt_5 (k_X4_isBelow) rfl rfl (Nat.le_of_ble_eq_true rfl) ?_
  refine p_ifeq_b (pc := 8) (tgt := 20) C dX0_codeAt_8 (by decide) (fun c_8 => ?_) (fun c_8 => ?_)
  · refine p_bipush (pc := 20) C dX0_codeAt_20 (by decide) ?_
    refine p_iret (pc := 22) C dX0_codeAt_22 ?_
    exact ⟨sv (by unfold cAt; first | rw [if_pos (by omega)] | rw [if_neg (by omega)]), rfl⟩
  · refine p_aload_n (pc := 11) C dX0_codeAt_11 rfl ?_
    refine p_get (pc := 12) C fl_X0_9 dX0_codeAt_12 (by first | exact ha | exact hc) (by assumption) (by rfl) ?_
    refine p_iload_n (pc := 15) C dX0_codeAt_15 rfl ?_
    refine p_iald (pc := 16) C dX0_codeAt_16 (by first | exact ha | exact hc) (by assumption) (by omega) ?_
    refine p_goto (pc := 17) (tgt := 22) C dX0_codeAt_17 (by decide) ?_
    refine p_iret (pc := 22) C dX0_codeAt_22 ?_
    exact ⟨sv (by unfold cAt; first | rw [if_pos (by omega)] | rw [if_neg (by omega)]), rfl⟩


set_option maxHeartbeats 4000000 in
set_option maxRecDepth 100000 in
theorem k_X0_digitAt {K : KX} {d : Nat} {μ : Int → ME} {i : Int} {a c th ln le : Int} (ha : IR a) (h1 : μ a = oR th ln le c) {f : Int → Int} (hc : IR c) (h2 : μ c = mA 60 f) (hl : 0 ≤ le ∧ le ≤ 60) (hd : 0 ≤ cAt le f i ∧ cAt le f i ≤ 1000) : Ct K (d + 2) yX0_digitAt cX0_digitAt 2 (some .int) [vR a, vI i] μ (pF (vI (cAt le f i - 48)) μ) := by
  refine Ct.of (by decide) (Nat.le_of_ble_eq_true rfl) (fun X C => ?_)
  refine p_aload_n (pc := 0) C dX0_digitAt_0 rfl ?_
  refine p_iload_n (pc := 1) C dX0_digitAt_1 rfl ?_
  refine p_callVF (pc := 2) C ln_X0_36 dX0_digitAt_2 (k_X0_codeAt ha h1 hc h2 hl) (by first | exact ha | exact hc) (by assumption) rfl rfl rfl rfl (Nat.le_of_ble_eq_true rfl) ?_
  refine p_bipush (pc := 5) C dX0_digitAt_5 (by decide) ?_
  refine p_isub (pc := 7) C dX0_digitAt_7 ⟨by omega, by omega⟩ ?_
  refine p_iret (pc := 8) C dX0_digitAt_8 ?_
  exact ⟨by first | rfl | (rw [if_pos (by omega)]) | (rw [if_neg (by omega)]) | (congr 2; omega), rfl⟩

set_option maxHeartbeats 4000000 in
set_option maxRecDepth 100000 in
theorem k_X0_standsAt {K : KX} {d : Nat} {μ : Int → ME} {i b : Int} {g : Int → Int} {a c th ln le : Int} (ha : IR a) (h1 : μ a = oR th ln le c) {f : Int → Int} (hc : IR c) (h2 : μ c = mA 60 f) (hl : 0 ≤ le ∧ le ≤ 60) (hi : 0 ≤ i ∧ i ≤ 60) (hb : IR b) (h3 : μ b = mA 4 g) : Ct K (d + 2) yX0_standsAt cX0_standsAt 4 (some .boolean) [vR a, vI i, vR b] μ (pF (vI (if cAt le f (i + 0) = g 0 ∧ cAt le f (i + 1) = g 1 ∧ cAt le f (i + 2) = g 2 ∧ cAt le f (i + 3) = g 3 then 1 else 0)) μ) := by
  refine Ct.of (by decide) (Nat.le_of_ble_eq_true rfl) (fun X C => ?_)
  refine p_iconst (pc := 0) C dX0_standsAt_0 (by decide) ?_
  refine p_istore_n (pc := 1) (ls' := [(3, _), (0, _), (1, _), (2, _)]) C dX0_standsAt_1 (by decide) rfl ?_
  refine p_iload_n (pc := 2) C dX0_standsAt_2 rfl ?_
  refine p_iconst (pc := 3) C dX0_standsAt_3 (by decide) ?_
  refine p_icmp_ge (pc := 4) (tgt := 28) C dX0_standsAt_4 (by decide) (fun h => absurd h (by decide)) (fun c_4 => ?_)
  refine p_aload_n (pc := 7) C dX0_standsAt_7 rfl ?_
  refine p_iload_n (pc := 8) C dX0_standsAt_8 rfl ?_
  refine p_iload_n (pc := 9) C dX0_standsAt_9 rfl ?_
  refine p_iadd (pc := 10) C dX0_standsAt_10 ⟨by omega, by omega⟩ ?_
  refine p_callVF (pc := 11) C ln_X0_36 dX0_standsAt_11 (k_X0_codeAt ha h1 hc h2 hl) (by first | exact ha | exact hc | exact hb) (by assumption) rfl rfl rfl rfl (Nat.le_of_ble_eq_true rfl) ?_
  refine p_aload_n (pc := 14) C dX0_standsAt_14 rfl ?_
  refine p_iload_n (pc := 15) C dX0_standsAt_15 rfl ?_
  refine p_iald (pc := 16) C dX0_standsAt_16 (by first | exact ha | exact hc | exact hb) (by assumption) (by omega) ?_
  refine p_icmp_eq (pc := 17) (tgt := 22) C dX0_standsAt_17 (by decide) (fun c_17 => ?_) (fun c_17 => ?_)
  · refine p_iincC (pc := 22) (w := 1) (ls' := [(3, _), (0, _), (1, _), (2, _)]) C dX0_standsAt_22 (by decide) rfl (by decide) (by decide) rfl ?_
    refine p_goto (pc := 25) (tgt := 2) C dX0_standsAt_25 (by decide) ?_
    refine p_iload_n (pc := 2) C dX0_standsAt_2 rfl ?_
    refine p_iconst (pc := 3) C dX0_standsAt_3 (by decide) ?_
    refine p_icmp_ge (pc := 4) (tgt := 28) C dX0_standsAt_4 (by decide) (fun h => absurd h (by decide)) (fun c_4 => ?_)
    refine p_aload_n (pc := 7) C dX0_standsAt_7 rfl ?_
    refine p_iload_n (pc := 8) C dX0_standsAt_8 rfl ?_
    refine p_iload_n (pc := 9) C dX0_standsAt_9 rfl ?_
    refine p_iadd (pc := 10) C dX0_standsAt_10 ⟨by omega, by omega⟩ ?_
    refine p_callVF (pc := 11) C ln_X0_36 dX0_standsAt_11 (k_X0_codeAt ha h1 hc h2 hl) (by first | exact ha | exact hc | exact hb) (by assumption) rfl rfl rfl rfl (Nat.le_of_ble_eq_true rfl) ?_
    refine p_aload_n (pc := 14) C dX0_standsAt_14 rfl ?_
    refine p_iload_n (pc := 15) C dX0_standsAt_15 rfl ?_
    refine p_iald (pc := 16) C dX0_standsAt_16 (by first | exact ha | exact hc | exact hb) (by assumption) (by omega) ?_
    refine p_icmp_eq (pc := 17) (tgt := 22) C dX0_standsAt_17 (by decide) (fun c_17 => ?_) (fun c_17 => ?_)
    · refine p_iincC (pc := 22) (w := 2) (ls' := [(3, _), (0, _), (1, _), (2, _)]) C dX0_standsAt_22 (by decide) rfl (by decide) (by decide) rfl ?_
      refine p_goto (pc := 25) (tgt := 2) C dX0_standsAt_25 (by decide) ?_
      refine p_iload_n (pc := 2) C dX0_standsAt_2 rfl ?_
      refine p_iconst (pc := 3) C dX0_standsAt_3 (by decide) ?_
      refine p_icmp_ge (pc := 4) (tgt := 28) C dX0_standsAt_4 (by decide) (fun h => absurd h (by decide)) (fun c_4 => ?_)
      refine p_aload_n (pc := 7) C dX0_standsAt_7 rfl ?_
      refine p_iload_n (pc := 8) C dX0_standsAt_8 rfl ?_
      refine p_iload_n (pc := 9) C dX0_standsAt_9 rfl ?_
      refine p_iadd (pc := 10) C dX0_standsAt_10 ⟨by omega, by omega⟩ ?_
      refine p_callVF (pc := 11) C ln_X0_36 dX0_standsAt_11 (k_X0_codeAt ha h1 hc h2 hl) (by first | exact ha | exact hc | exact hb) (by assumption) rfl rfl rfl rfl (Nat.le_of_ble_eq_true rfl) ?_
      refine p_aload_n (pc := 14) C dX0_standsAt_14 rfl ?_
      refine p_iload_n (pc := 15) C dX0_standsAt_15 rfl ?_
      refine p_iald (pc := 16) C dX0_standsAt_16 (by first | exact ha | exact hc | exact hb) (by assumption) (by omega) ?_
      refine p_icmp_eq (pc := 17) (tgt := 22) C dX0_standsAt_17 (by decide) (fun c_17 => ?_) (fun c_17 => ?_)
      · refine p_iincC (pc := 22) (w := 3) (ls' := [(3, _), (0, _), (1, _), (2, _)]) C dX0_standsAt_22 (by decide) rfl (by decide) (by decide) rfl ?_
        refine p_goto (pc := 25) (tgt := 2) C dX0_standsAt_25 (by decide) ?_
        refine p_iload_n (pc := 2) C dX0_standsAt_2 rfl ?_
        refine p_iconst (pc := 3) C dX0_standsAt_3 (by decide) ?_
        refine p_icmp_ge (pc := 4) (tgt := 28) C dX0_standsAt_4 (by decide) (fun h => absurd h (by decide)) (fun c_4 => ?_)
        refine p_aload_n (pc := 7) C dX0_standsAt_7 rfl ?_
        refine p_iload_n (pc := 8) C dX0_standsAt_8 rfl ?_
        refine p_iload_n (pc := 9) C dX0_standsAt_9 rfl ?_
        refine p_iadd (pc := 10) C dX0_standsAt_10 ⟨by omega, by omega⟩ ?_
        refine p_callVF (pc := 11) C ln_X0_36 dX0_standsAt_11 (k_X0_codeAt ha h1 hc h2 hl) (by first | exact ha | exact hc | exact hb) (by assumption) rfl rfl rfl rfl (Nat.le_of_ble_eq_true rfl) ?_
        refine p_aload_n (pc := 14) C dX0_standsAt_14 rfl ?_
        refine p_iload_n (pc := 15) C dX0_standsAt_15 rfl ?_
        refine p_iald (pc := 16) C dX0_standsAt_16 (by first | exact ha | exact hc | exact hb) (by assumption) (by omega) ?_
        refine p_icmp_eq (pc := 17) (tgt := 22) C dX0_standsAt_17 (by decide) (fun c_17 => ?_) (fun c_17 => ?_)
        · refine p_iincC (pc := 22) (w := 4) (ls' := [(3, _), (0, _), (1, _), (2, _)]) C dX0_standsAt_22 (by decide) rfl (by decide) (by decide) rfl ?_
          refine p_goto (pc := 25) (tgt := 2) C dX0_standsAt_25 (by decide) ?_
          refine p_iload_n (pc := 2) C dX0_standsAt_2 rfl ?_
          refine p_iconst (pc := 3) C dX0_standsAt_3 (by decide) ?_
          refine p_icmp_ge (pc := 4) (tgt := 28) C dX0_standsAt_4 (by decide) (fun c_4 => ?_) (fun h => absurd h (by decide))
          refine p_iconst (pc := 28) C dX0_standsAt_28 (by decide) ?_
          refine p_zret (pc := 29) C dX0_standsAt_29 (by first | exact Or.inl rfl | exact Or.inr rfl | (split <;> simp)) ?_
          exact ⟨by first | rfl | (rw [if_pos (by omega)]) | (rw [if_neg (by omega)]) | (congr 2; omega), rfl⟩
        · refine p_iconst (pc := 20) C dX0_standsAt_20 (by decide) ?_
          refine p_zret (pc := 21) C dX0_standsAt_21 (by first | exact Or.inl rfl | exact Or.inr rfl | (split <;> simp)) ?_
          exact ⟨by first | rfl | (rw [if_pos (by omega)]) | (rw [if_neg (by omega)]) | (congr 2; omega), rfl⟩
      · refine p_iconst (pc := 20) C dX0_standsAt_20 (by decide) ?_
        refine p_zret (pc := 21) C dX0_standsAt_21 (by first | exact Or.inl rfl | exact Or.inr rfl | (split <;> simp)) ?_
        exact ⟨by first | rfl | (rw [if_pos (by omega)]) | (rw [if_neg (by omega)]) | (congr 2; omega), rfl⟩
    · refine p_iconst (pc := 20) C dX0_standsAt_20 (by decide) ?_
      refine p_zret (pc := 21) C dX0_standsAt_21 (by first | exact Or.inl rfl | exact Or.inr rfl | (split <;> simp)) ?_
      exact ⟨by first | rfl | (rw [if_pos (by omega)]) | (rw [if_neg (by omega)]) | (congr 2; omega), rfl⟩
  · refine p_iconst (pc := 20) C dX0_standsAt_20 (by decide) ?_
    refine p_zret (pc := 21) C dX0_standsAt_21 (by first | exact Or.inl rfl | exact Or.inr rfl | (split <;> simp)) ?_
    exact ⟨by first | rfl | (rw [if_pos (by omega)]) | (rw [if_neg (by omega)]) | (congr 2; omega), rfl⟩

theorem fz_0 (f : Int → Int) : fz f 0 = f := by funext j; unfold fz; rw [if_neg (by omega)]
theorem fz_s (f : Int → Int) (i : Int) (h : 0 ≤ i) : fup (fz f i) i 0 = fz f (i + 1) := by
  funext j; unfold fup fz
  by_cases e : j = i
  · rw [if_pos e, if_pos (by omega)]
  · rw [if_neg e]
    by_cases e2 : 0 ≤ j ∧ j < i
    · rw [if_pos e2, if_pos (by omega)]
    · rw [if_neg e2, if_neg (by omega)]
set_option maxHeartbeats 4000000 in
set_option maxRecDepth 100000 in
theorem k_X0_begin {K : KX} {d : Nat} {μ : Int → ME} {l n : Int} {a c th ln le : Int} (ha : IR a) (h1 : μ a = oR th ln le c) {f : Int → Int} (hc : IR c) (h2 : μ c = mA 60 f) (hac : a ≠ c) (hn : 0 ≤ n ∧ n ≤ 60) : Ct K (d + 1) yX0_begin cX0_begin 4 none [vR a, vI l, vI n] μ (pU (mup (mup μ a (oR 1 l n c)) c (mA 60 (fz f n)))) := by
  refine Ct.of (by decide) (Nat.le_of_ble_eq_true rfl) (fun X C => ?_)
  have L : ∀ (t : Nat) (i : Int), 0 ≤ i → i ≤ n → n - i = (t : Int) → PW K X 4 (QM K X (pU (mup (mup μ a (oR 1 l n c)) c (mA 60 (fz f n))))) 17 [(3, vI i), (0, vR a), (1, vI l), (2, vI n)] [] (mup (mup μ a (oR 1 l n c)) c (mA 60 (fz f i))) := by
    intro t
    induction t with
    | zero =>
      intro i hi0 hi1 hi2
      have hin : i = n := by omega
      subst hin
      refine p_iload_n (pc := 17) C dX0_begin_17 rfl ?_
      refine p_iload_n (pc := 18) C dX0_begin_18 rfl ?_
      refine p_icmp_ge (pc := 19) (tgt := 41) C dX0_begin_19 (by decide) (fun c_19 => ?_) (fun h => by exfalso; omega)
      refine p_vret (pc := 41) C dX0_begin_41 ?_
      exact ⟨rfl, rfl⟩
    | succ t ih =>
      intro i hi0 hi1 hi2
      refine p_iload_n (pc := 17) C dX0_begin_17 rfl ?_
      refine p_iload_n (pc := 18) C dX0_begin_18 rfl ?_
      refine p_icmp_ge (pc := 19) (tgt := 41) C dX0_begin_19 (by decide) (fun h => by exfalso; omega) (fun c_19 => ?_)
      refine p_iload_n (pc := 22) C dX0_begin_22 rfl ?_
      refine p_bipush (pc := 23) C dX0_begin_23 (by decide) ?_
      refine p_icmp_ge (pc := 25) (tgt := 41) C dX0_begin_25 (by decide) (fun h => by exfalso; omega) (fun c_25 => ?_)
      refine p_aload_n (pc := 28) C dX0_begin_28 rfl ?_
      refine p_get (pc := 29) C fl_X0_9 dX0_begin_29 (by first | exact ha | exact hc) (by (repeat refine mg_n (by omega) ?_); first | assumption | exact mup_s _ _ _) (by rfl) ?_
      refine p_iload_n (pc := 32) C dX0_begin_32 rfl ?_
      refine p_iconst (pc := 33) C dX0_begin_33 (by decide) ?_
      refine p_iast (pc := 34) C dX0_begin_34 (by first | exact ha | exact hc) (by (repeat refine mg_n (by omega) ?_); first | assumption | exact mup_s _ _ _) (by omega) ?_
      try refine p_mem (mup_mup _ _ _ _) ?_
      refine p_iinc (pc := 35) (ls' := [(3, _), (0, _), (1, _), (2, _)]) C dX0_begin_35 (by decide) rfl ⟨by omega, by omega⟩ rfl ?_
      refine p_goto (pc := 38) (tgt := 17) C dX0_begin_38 (by decide) ?_
      refine p_mem (by rw [fz_s]; exact hi0) (ih (i + 1) (by omega) (by omega) (by omega))
  refine p_aload_n (pc := 0) C dX0_begin_0 rfl ?_
  refine p_iconst (pc := 1) C dX0_begin_1 (by decide) ?_
  refine p_putLZ (pc := 2) (fs' := [_, _, _, _]) C fp_X0_15 dX0_begin_2 (by first | exact ha | exact hc) (by (repeat refine mg_n (by omega) ?_); first | assumption | exact mup_s _ _ _) (by exact Nat.le_of_ble_eq_true rfl) (by decide) (by rfl) ?_
  try refine p_mem (mup_mup _ _ _ _) ?_
  refine p_aload_n (pc := 5) C dX0_begin_5 rfl ?_
  refine p_iload_n (pc := 6) C dX0_begin_6 rfl ?_
  refine p_putL (pc := 7) (fs' := [_, _, _, _]) C fp_X0_19 dX0_begin_7 (by first | exact ha | exact hc) (by (repeat refine mg_n (by omega) ?_); first | assumption | exact mup_s _ _ _) (by exact Nat.le_of_ble_eq_true rfl) (by rfl) ?_
  try refine p_mem (mup_mup _ _ _ _) ?_
  refine p_aload_n (pc := 10) C dX0_begin_10 rfl ?_
  refine p_iload_n (pc := 11) C dX0_begin_11 rfl ?_
  refine p_putL (pc := 12) (fs' := [_, _, _, _]) C fp_X0_23 dX0_begin_12 (by first | exact ha | exact hc) (by (repeat refine mg_n (by omega) ?_); first | assumption | exact mup_s _ _ _) (by exact Nat.le_of_ble_eq_true rfl) (by rfl) ?_
  try refine p_mem (mup_mup _ _ _ _) ?_
  refine p_iconst (pc := 15) C dX0_begin_15 (by decide) ?_
  refine p_istore_n (pc := 16) (ls' := [(3, _), (0, _), (1, _), (2, _)]) C dX0_begin_16 (by decide) rfl ?_
  refine p_mem ?_ (L n.toNat 0 (by omega) (by omega) (by omega))
  rw [fz_0, mup_id (μ := mup μ a _) (a := c) (by rw [mup_n _ _ _ (Ne.symm hac)]; exact h2)]

set_option maxHeartbeats 4000000 in
set_option maxRecDepth 100000 in
theorem k_X3_begin {K : KX} {d : Nat} {μ : Int → ME} {a p w s : Int} (ha : IR a) (h1 : μ a = oT p w s) : Ct K (d) yX3_begin cX3_begin 1 none [vR a] μ (pU (mup μ a (oT 0 0 (-9)))) := by
  refine Ct.of (by decide) (Nat.le_of_ble_eq_true rfl) (fun X C => ?_)
  refine p_aload_n (pc := 0) C dX3_begin_0 rfl ?_
  refine p_iconst (pc := 1) C dX3_begin_1 (by decide) ?_
  refine p_putL (pc := 2) (fs' := [_, _, _]) C fp_X3_9 dX3_begin_2 ha (by (repeat refine mg_n (by omega) ?_); first | assumption | exact mup_s _ _ _) (by exact Nat.le_of_ble_eq_true rfl) (by rfl) ?_
  try refine p_mem (mup_mup _ _ _ _) ?_
  refine p_aload_n (pc := 5) C dX3_begin_5 rfl ?_
  refine p_iconst (pc := 6) C dX3_begin_6 (by decide) ?_
  refine p_putL (pc := 7) (fs' := [_, _, _]) C fp_X3_15 dX3_begin_7 ha (by (repeat refine mg_n (by omega) ?_); first | assumption | exact mup_s _ _ _) (by exact Nat.le_of_ble_eq_true rfl) (by rfl) ?_
  try refine p_mem (mup_mup _ _ _ _) ?_
  refine p_aload_n (pc := 10) C dX3_begin_10 rfl ?_
  refine p_bipush (pc := 11) C dX3_begin_11 (by decide) ?_
  refine p_putL (pc := 13) (fs' := [_, _, _]) C fp_X3_18 dX3_begin_13 ha (by (repeat refine mg_n (by omega) ?_); first | assumption | exact mup_s _ _ _) (by exact Nat.le_of_ble_eq_true rfl) (by rfl) ?_
  try refine p_mem (mup_mup _ _ _ _) ?_
  refine p_vret (pc := 16) C dX3_begin_16 ?_
  exact ⟨rfl, rfl⟩

set_option maxHeartbeats 4000000 in
set_option maxRecDepth 100000 in
theorem k_X3_count {K : KX} {d : Nat} {μ : Int → ME} {sh g nmd : Int} {a p w s : Int} (ha : IR a) (h1 : μ a = oT p w s) (hp : 0 ≤ p ∧ p ≤ 1000000) (hw : 0 ≤ w ∧ w ≤ 1000000) (hg : 0 ≤ g ∧ g ≤ 100) : Ct K (d + 1) yX3_count cX3_count 4 none [vR a, vI sh, vI g, vI nmd] μ (pU (mup μ a (oT (p + 1) (w + (g + 1)) (if nmd ≠ 0 ∧ s = -9 then sh else s)))) := by
  refine Ct.of (by decide) (Nat.le_of_ble_eq_true rfl) (fun X C => ?_)
  refine p_aload_n (pc := 0) C dX3_count_0 rfl ?_
  refine p_dup (pc := 1) C dX3_count_1 rfl ?_
  refine p_get (pc := 2) C fl_X3_9 dX3_count_2 ha (by (repeat refine mg_n (by omega) ?_); first | assumption | exact mup_s _ _ _) (by rfl) ?_
  refine p_iconst (pc := 5) C dX3_count_5 (by decide) ?_
  refine p_iadd (pc := 6) C dX3_count_6 ⟨by omega, by omega⟩ ?_
  refine p_putL (pc := 7) (fs' := [_, _, _]) C fp_X3_9 dX3_count_7 ha (by (repeat refine mg_n (by omega) ?_); first | assumption | exact mup_s _ _ _) (by exact Nat.le_of_ble_eq_true rfl) (by rfl) ?_
  try refine p_mem (mup_mup _ _ _ _) ?_
  refine p_aload_n (pc := 10) C dX3_count_10 rfl ?_
  refine p_dup (pc := 11) C dX3_count_11 rfl ?_
  refine p_get (pc := 12) C fl_X3_15 dX3_count_12 ha (by (repeat refine mg_n (by omega) ?_); first | assumption | exact mup_s _ _ _) (by rfl) ?_
  refine p_iload_n (pc := 15) C dX3_count_15 rfl ?_
  refine p_callNF (pc := 16) C ln_X3_21 dX3_count_16 (k_X4_worthOf (by omega)) rfl rfl (Nat.le_of_ble_eq_true rfl) ?_
  refine p_iadd (pc := 19) C dX3_count_19 ⟨by omega, by omega⟩ ?_
  refine p_putL (pc := 20) (fs' := [_, _, _]) C fp_X3_15 dX3_count_20 ha (by (repeat refine mg_n (by omega) ?_); first | assumption | exact mup_s _ _ _) (by exact Nat.le_of_ble_eq_true rfl) (by rfl) ?_
  try refine p_mem (mup_mup _ _ _ _) ?_
  refine p_iload_n (pc := 23) C dX3_count_23 rfl ?_
  refine p_if_eq (pc := 24) (tgt := 41) C dX3_count_24 (by decide) (fun c_24 => ?_) (fun c_24 => ?_)
  · refine p_vret (pc := 41) C dX3_count_41 ?_
    exact ⟨rfl, by first | rw [if_pos (by omega)] | rw [if_neg (by omega)]⟩
  · refine p_aload_n (pc := 27) C dX3_count_27 rfl ?_
    refine p_get (pc := 28) C fl_X3_18 dX3_count_28 ha (by (repeat refine mg_n (by omega) ?_); first | assumption | exact mup_s _ _ _) (by rfl) ?_
    refine p_bipush (pc := 31) C dX3_count_31 (by decide) ?_
    refine p_icmp_ne (pc := 33) (tgt := 41) C dX3_count_33 (by decide) (fun c_33 => ?_) (fun c_33 => ?_)
    · refine p_vret (pc := 41) C dX3_count_41 ?_
      exact ⟨rfl, by first | rw [if_pos (by omega)] | rw [if_neg (by omega)]⟩
    · refine p_aload_n (pc := 36) C dX3_count_36 rfl ?_
      refine p_iload_n (pc := 37) C dX3_count_37 rfl ?_
      refine p_putL (pc := 38) (fs' := [_, _, _]) C fp_X3_18 dX3_count_38 ha (by (repeat refine mg_n (by omega) ?_); first | assumption | exact mup_s _ _ _) (by exact Nat.le_of_ble_eq_true rfl) (by rfl) ?_
      try refine p_mem (mup_mup _ _ _ _) ?_
      refine p_vret (pc := 41) C dX3_count_41 ?_
      exact ⟨rfl, by first | rw [if_pos (by omega)] | rw [if_neg (by omega)]⟩

/-- the good of an act, and what is there behind it -/
def actG (act : Int) : Int := if act < 4 then act else act - 4
def actV (f : Int → Int) (act : Int) : Int := f (actG act) + (if act < 4 then 1 else -1)

set_option maxHeartbeats 4000000 in
set_option maxRecDepth 100000 in
theorem k_X1_doAct {K : KX} {d : Nat} {μ : Int → ME} {act : Int} {a c kd nm sg pt : Int} (ha : IR a) (h1 : μ a = oS kd nm sg pt c) {f : Int → Int} (hc : IR c) (h2 : μ c = mA 4 f) (hac : a ≠ c) (hb : bd4 f 9) (h : 0 ≤ act ∧ act ≤ 7) : Ct K (d + 2) yX1_doAct cX1_doAct 4 (some .boolean) [vR a, vI act] μ (fun r μ' => (0 ≤ actV f act ∧ actV f act ≤ 9 ∧ r = some (vI 1) ∧ μ' = mup μ c (mA 4 (fup f (actG act) (actV f act)))) ∨ (¬ (0 ≤ actV f act ∧ actV f act ≤ 9) ∧ r = some (vI 0) ∧ μ' = μ)) := by
  refine Ct.of (by decide) (Nat.le_of_ble_eq_true rfl) (fun X C => ?_)
  by_cases e : act < 4
  · have eG : actG act = act := by unfold actG; rw [if_pos e]
    have eV : actV f act = f act + 1 := by unfold actV; rw [eG, if_pos e]
    rw [eV, eG]
    have bb := hb.at (g := act) (by omega) (by omega)
    refine p_iload_n (pc := 0) C dX1_doAct_0 rfl ?_
    refine p_iconst (pc := 1) C dX1_doAct_1 (by decide) ?_
    refine p_icmp_ge (pc := 2) (tgt := 9) C dX1_doAct_2 (by decide) (fun h => by exfalso; omega) (fun c_2 => ?_)
    refine p_iload_n (pc := 5) C dX1_doAct_5 rfl ?_
    refine p_goto (pc := 6) (tgt := 12) C dX1_doAct_6 (by decide) ?_
    refine p_istore_n (pc := 12) (ls' := [(2, _), (0, _), (1, _)]) C dX1_doAct_12 (by decide) rfl ?_
    refine p_iload_n (pc := 13) C dX1_doAct_13 rfl ?_
    refine p_callNF (pc := 14) C ln_X1_37 dX1_doAct_14 (k_X4_isGood) rfl rfl (Nat.le_of_ble_eq_true rfl) ?_
    refine p_ifeq_b (pc := 17) (tgt := 40) C dX1_doAct_17 (by decide) (fun c_17 => ?_) (fun c_17 => ?_)
    · refine p_bipush (pc := 40) C dX1_doAct_40 (by decide) ?_
      refine p_istore_n (pc := 42) (ls' := [(3, _), (2, _), (0, _), (1, _)]) C dX1_doAct_42 (by decide) rfl ?_
      refine p_iload_n (pc := 43) C dX1_doAct_43 rfl ?_
      refine p_bipush (pc := 44) C dX1_doAct_44 (by decide) ?_
      refine p_callNF (pc := 46) C ln_X1_41 dX1_doAct_46 (k_X4_isUpTo) rfl rfl (Nat.le_of_ble_eq_true rfl) ?_
      refine p_ifne_b (pc := 49) (tgt := 54) C dX1_doAct_49 (by decide) (fun c_49 => ?_) (fun c_49 => ?_)
      · refine p_aload_n (pc := 54) C dX1_doAct_54 rfl ?_
        refine p_get (pc := 55) C fl_X1_9 dX1_doAct_55 (by first | exact ha | exact hc) (by (repeat refine mg_n (by omega) ?_); first | assumption | exact mup_s _ _ _) (by rfl) ?_
        refine p_iload_n (pc := 58) C dX1_doAct_58 rfl ?_
        refine p_iload_n (pc := 59) C dX1_doAct_59 rfl ?_
        refine p_iast (pc := 60) C dX1_doAct_60 (by first | exact ha | exact hc) (by (repeat refine mg_n (by omega) ?_); first | assumption | exact mup_s _ _ _) (by omega) ?_
        try refine p_mem (mup_mup _ _ _ _) ?_
        refine p_iconst (pc := 61) C dX1_doAct_61 (by decide) ?_
        refine p_zret (pc := 62) C dX1_doAct_62 (by first | exact Or.inl rfl | exact Or.inr rfl | (split <;> simp)) ?_
        first | (exfalso; omega) | exact Or.inl ⟨by omega, by omega, rfl, rfl⟩ | exact Or.inr ⟨by omega, rfl, rfl⟩
      · refine p_iconst (pc := 52) C dX1_doAct_52 (by decide) ?_
        refine p_zret (pc := 53) C dX1_doAct_53 (by first | exact Or.inl rfl | exact Or.inr rfl | (split <;> simp)) ?_
        first | (exfalso; omega) | exact Or.inl ⟨by omega, by omega, rfl, rfl⟩ | exact Or.inr ⟨by omega, rfl, rfl⟩
    · refine p_aload_n (pc := 20) C dX1_doAct_20 rfl ?_
      refine p_get (pc := 21) C fl_X1_9 dX1_doAct_21 (by first | exact ha | exact hc) (by (repeat refine mg_n (by omega) ?_); first | assumption | exact mup_s _ _ _) (by rfl) ?_
      refine p_iload_n (pc := 24) C dX1_doAct_24 rfl ?_
      refine p_iald (pc := 25) C dX1_doAct_25 (by first | exact ha | exact hc) (by (repeat refine mg_n (by omega) ?_); first | assumption | exact mup_s _ _ _) (by omega) ?_
      refine p_iload_n (pc := 26) C dX1_doAct_26 rfl ?_
      refine p_iconst (pc := 27) C dX1_doAct_27 (by decide) ?_
      refine p_icmp_ge (pc := 28) (tgt := 35) C dX1_doAct_28 (by decide) (fun h => by exfalso; omega) (fun c_28 => ?_)
      refine p_iconst (pc := 31) C dX1_doAct_31 (by decide) ?_
      refine p_goto (pc := 32) (tgt := 36) C dX1_doAct_32 (by decide) ?_
      refine p_iadd (pc := 36) C dX1_doAct_36 ⟨by omega, by omega⟩ ?_
      refine p_goto (pc := 37) (tgt := 42) C dX1_doAct_37 (by decide) ?_
      refine p_istore_n (pc := 42) (ls' := [(3, _), (2, _), (0, _), (1, _)]) C dX1_doAct_42 (by decide) rfl ?_
      refine p_iload_n (pc := 43) C dX1_doAct_43 rfl ?_
      refine p_bipush (pc := 44) C dX1_doAct_44 (by decide) ?_
      refine p_callNF (pc := 46) C ln_X1_41 dX1_doAct_46 (k_X4_isUpTo) rfl rfl (Nat.le_of_ble_eq_true rfl) ?_
      refine p_ifne_b (pc := 49) (tgt := 54) C dX1_doAct_49 (by decide) (fun c_49 => ?_) (fun c_49 => ?_)
      · refine p_aload_n (pc := 54) C dX1_doAct_54 rfl ?_
        refine p_get (pc := 55) C fl_X1_9 dX1_doAct_55 (by first | exact ha | exact hc) (by (repeat refine mg_n (by omega) ?_); first | assumption | exact mup_s _ _ _) (by rfl) ?_
        refine p_iload_n (pc := 58) C dX1_doAct_58 rfl ?_
        refine p_iload_n (pc := 59) C dX1_doAct_59 rfl ?_
        refine p_iast (pc := 60) C dX1_doAct_60 (by first | exact ha | exact hc) (by (repeat refine mg_n (by omega) ?_); first | assumption | exact mup_s _ _ _) (by omega) ?_
        try refine p_mem (mup_mup _ _ _ _) ?_
        refine p_iconst (pc := 61) C dX1_doAct_61 (by decide) ?_
        refine p_zret (pc := 62) C dX1_doAct_62 (by first | exact Or.inl rfl | exact Or.inr rfl | (split <;> simp)) ?_
        first | (exfalso; omega) | exact Or.inl ⟨by omega, by omega, rfl, rfl⟩ | exact Or.inr ⟨by omega, rfl, rfl⟩
      · refine p_iconst (pc := 52) C dX1_doAct_52 (by decide) ?_
        refine p_zret (pc := 53) C dX1_doAct_53 (by first | exact Or.inl rfl | exact Or.inr rfl | (split <;> simp)) ?_
        first | (exfalso; omega) | exact Or.inl ⟨by omega, by omega, rfl, rfl⟩ | exact Or.inr ⟨by omega, rfl, rfl⟩
  · have eG : actG act = act - 4 := by unfold actG; rw [if_neg e]
    have eV : actV f act = f (act - 4) + -1 := by unfold actV; rw [eG, if_neg e]
    rw [eV, eG]
    have bb := hb.at (g := act - 4) (by omega) (by omega)
    refine p_iload_n (pc := 0) C dX1_doAct_0 rfl ?_
    refine p_iconst (pc := 1) C dX1_doAct_1 (by decide) ?_
    refine p_icmp_ge (pc := 2) (tgt := 9) C dX1_doAct_2 (by decide) (fun c_2 => ?_) (fun h => by exfalso; omega)
    refine p_iload_n (pc := 9) C dX1_doAct_9 rfl ?_
    refine p_iconst (pc := 10) C dX1_doAct_10 (by decide) ?_
    refine p_isub (pc := 11) C dX1_doAct_11 ⟨by omega, by omega⟩ ?_
    refine p_istore_n (pc := 12) (ls' := [(2, _), (0, _), (1, _)]) C dX1_doAct_12 (by decide) rfl ?_
    refine p_iload_n (pc := 13) C dX1_doAct_13 rfl ?_
    refine p_callNF (pc := 14) C ln_X1_37 dX1_doAct_14 (k_X4_isGood) rfl rfl (Nat.le_of_ble_eq_true rfl) ?_
    refine p_ifeq_b (pc := 17) (tgt := 40) C dX1_doAct_17 (by decide) (fun c_17 => ?_) (fun c_17 => ?_)
    · refine p_bipush (pc := 40) C dX1_doAct_40 (by decide) ?_
      refine p_istore_n (pc := 42) (ls' := [(3, _), (2, _), (0, _), (1, _)]) C dX1_doAct_42 (by decide) rfl ?_
      refine p_iload_n (pc := 43) C dX1_doAct_43 rfl ?_
      refine p_bipush (pc := 44) C dX1_doAct_44 (by decide) ?_
      refine p_callNF (pc := 46) C ln_X1_41 dX1_doAct_46 (k_X4_isUpTo) rfl rfl (Nat.le_of_ble_eq_true rfl) ?_
      refine p_ifne_b (pc := 49) (tgt := 54) C dX1_doAct_49 (by decide) (fun c_49 => ?_) (fun c_49 => ?_)
      · refine p_aload_n (pc := 54) C dX1_doAct_54 rfl ?_
        refine p_get (pc := 55) C fl_X1_9 dX1_doAct_55 (by first | exact ha | exact hc) (by (repeat refine mg_n (by omega) ?_); first | assumption | exact mup_s _ _ _) (by rfl) ?_
        refine p_iload_n (pc := 58) C dX1_doAct_58 rfl ?_
        refine p_iload_n (pc := 59) C dX1_doAct_59 rfl ?_
        refine p_iast (pc := 60) C dX1_doAct_60 (by first | exact ha | exact hc) (by (repeat refine mg_n (by omega) ?_); first | assumption | exact mup_s _ _ _) (by omega) ?_
        try refine p_mem (mup_mup _ _ _ _) ?_
        refine p_iconst (pc := 61) C dX1_doAct_61 (by decide) ?_
        refine p_zret (pc := 62) C dX1_doAct_62 (by first | exact Or.inl rfl | exact Or.inr rfl | (split <;> simp)) ?_
        first | (exfalso; omega) | exact Or.inl ⟨by omega, by omega, rfl, rfl⟩ | exact Or.inr ⟨by omega, rfl, rfl⟩
      · refine p_iconst (pc := 52) C dX1_doAct_52 (by decide) ?_
        refine p_zret (pc := 53) C dX1_doAct_53 (by first | exact Or.inl rfl | exact Or.inr rfl | (split <;> simp)) ?_
        first | (exfalso; omega) | exact Or.inl ⟨by omega, by omega, rfl, rfl⟩ | exact Or.inr ⟨by omega, rfl, rfl⟩
    · refine p_aload_n (pc := 20) C dX1_doAct_20 rfl ?_
      refine p_get (pc := 21) C fl_X1_9 dX1_doAct_21 (by first | exact ha | exact hc) (by (repeat refine mg_n (by omega) ?_); first | assumption | exact mup_s _ _ _) (by rfl) ?_
      refine p_iload_n (pc := 24) C dX1_doAct_24 rfl ?_
      refine p_iald (pc := 25) C dX1_doAct_25 (by first | exact ha | exact hc) (by (repeat refine mg_n (by omega) ?_); first | assumption | exact mup_s _ _ _) (by omega) ?_
      refine p_iload_n (pc := 26) C dX1_doAct_26 rfl ?_
      refine p_iconst (pc := 27) C dX1_doAct_27 (by decide) ?_
      refine p_icmp_ge (pc := 28) (tgt := 35) C dX1_doAct_28 (by decide) (fun c_28 => ?_) (fun h => by exfalso; omega)
      refine p_iconst (pc := 35) C dX1_doAct_35 (by decide) ?_
      refine p_iadd (pc := 36) C dX1_doAct_36 ⟨by omega, by omega⟩ ?_
      refine p_goto (pc := 37) (tgt := 42) C dX1_doAct_37 (by decide) ?_
      refine p_istore_n (pc := 42) (ls' := [(3, _), (2, _), (0, _), (1, _)]) C dX1_doAct_42 (by decide) rfl ?_
      refine p_iload_n (pc := 43) C dX1_doAct_43 rfl ?_
      refine p_bipush (pc := 44) C dX1_doAct_44 (by decide) ?_
      refine p_callNF (pc := 46) C ln_X1_41 dX1_doAct_46 (k_X4_isUpTo) rfl rfl (Nat.le_of_ble_eq_true rfl) ?_
      refine p_ifne_b (pc := 49) (tgt := 54) C dX1_doAct_49 (by decide) (fun c_49 => ?_) (fun c_49 => ?_)
      · refine p_aload_n (pc := 54) C dX1_doAct_54 rfl ?_
        refine p_get (pc := 55) C fl_X1_9 dX1_doAct_55 (by first | exact ha | exact hc) (by (repeat refine mg_n (by omega) ?_); first | assumption | exact mup_s _ _ _) (by rfl) ?_
        refine p_iload_n (pc := 58) C dX1_doAct_58 rfl ?_
        refine p_iload_n (pc := 59) C dX1_doAct_59 rfl ?_
        refine p_iast (pc := 60) C dX1_doAct_60 (by first | exact ha | exact hc) (by (repeat refine mg_n (by omega) ?_); first | assumption | exact mup_s _ _ _) (by omega) ?_
        try refine p_mem (mup_mup _ _ _ _) ?_
        refine p_iconst (pc := 61) C dX1_doAct_61 (by decide) ?_
        refine p_zret (pc := 62) C dX1_doAct_62 (by first | exact Or.inl rfl | exact Or.inr rfl | (split <;> simp)) ?_
        first | (exfalso; omega) | exact Or.inl ⟨by omega, by omega, rfl, rfl⟩ | exact Or.inr ⟨by omega, rfl, rfl⟩
      · refine p_iconst (pc := 52) C dX1_doAct_52 (by decide) ?_
        refine p_zret (pc := 53) C dX1_doAct_53 (by first | exact Or.inl rfl | exact Or.inr rfl | (split <;> simp)) ?_
        first | (exfalso; omega) | exact Or.inl ⟨by omega, by omega, rfl, rfl⟩ | exact Or.inr ⟨by omega, rfl, rfl⟩

set_option maxHeartbeats 4000000 in
set_option maxRecDepth 100000 in
theorem k_X1_becomeLike {K : KX} {d : Nat} {μ : Int → ME} {a c kd nm sg pt : Int} (ha : IR a) (h1 : μ a = oS kd nm sg pt c) {f : Int → Int} (hc : IR c) (h2 : μ c = mA 4 f) {b e kd' nm' sg' pt' : Int} (hb : IR b) (h3 : μ b = oS kd' nm' sg' pt' e) {g : Int → Int} (he : IR e) (h4 : μ e = mA 4 g) (hab : a ≠ b) (hac : a ≠ c) (hae : a ≠ e) : Ct K (d + 1) yX1_becomeLike cX1_becomeLike 2 none [vR a, vR b] μ (pU (mup (mup μ a (oS kd' nm' sg' pt' c)) c (mA 4 (fcp g f 0 0 4)))) := by
  refine Ct.of (by decide) (Nat.le_of_ble_eq_true rfl) (fun X C => ?_)
  refine p_aload_n (pc := 0) C dX1_becomeLike_0 rfl ?_
  refine p_aload_n (pc := 1) C dX1_becomeLike_1 rfl ?_
  refine p_get (pc := 2) C fl_X1_15 dX1_becomeLike_2 (by first | exact ha | exact hb | exact hc | exact he) (by (repeat refine mg_n (by omega) ?_); first | assumption | exact mup_s _ _ _) (by rfl) ?_
  refine p_putL (pc := 5) (fs' := [_, _, _, _, _]) C fp_X1_15 dX1_becomeLike_5 (by first | exact ha | exact hb | exact hc | exact he) (by (repeat refine mg_n (by omega) ?_); first | assumption | exact mup_s _ _ _) (by exact Nat.le_of_ble_eq_true rfl) (by rfl) ?_
  try refine p_mem (mup_mup _ _ _ _) ?_
  refine p_aload_n (pc := 8) C dX1_becomeLike_8 rfl ?_
  refine p_aload_n (pc := 9) C dX1_becomeLike_9 rfl ?_
  refine p_get (pc := 10) C fl_X1_26 dX1_becomeLike_10 (by first | exact ha | exact hb | exact hc | exact he) (by (repeat refine mg_n (by omega) ?_); first | assumption | exact mup_s _ _ _) (by rfl) ?_
  refine p_putL (pc := 13) (fs' := [_, _, _, _, _]) C fp_X1_26 dX1_becomeLike_13 (by first | exact ha | exact hb | exact hc | exact he) (by (repeat refine mg_n (by omega) ?_); first | assumption | exact mup_s _ _ _) (by exact Nat.le_of_ble_eq_true rfl) (by rfl) ?_
  try refine p_mem (mup_mup _ _ _ _) ?_
  refine p_aload_n (pc := 16) C dX1_becomeLike_16 rfl ?_
  refine p_aload_n (pc := 17) C dX1_becomeLike_17 rfl ?_
  refine p_get (pc := 18) C fl_X1_19 dX1_becomeLike_18 (by first | exact ha | exact hb | exact hc | exact he) (by (repeat refine mg_n (by omega) ?_); first | assumption | exact mup_s _ _ _) (by rfl) ?_
  refine p_putL (pc := 21) (fs' := [_, _, _, _, _]) C fp_X1_19 dX1_becomeLike_21 (by first | exact ha | exact hb | exact hc | exact he) (by (repeat refine mg_n (by omega) ?_); first | assumption | exact mup_s _ _ _) (by exact Nat.le_of_ble_eq_true rfl) (by rfl) ?_
  try refine p_mem (mup_mup _ _ _ _) ?_
  refine p_aload_n (pc := 24) C dX1_becomeLike_24 rfl ?_
  refine p_aload_n (pc := 25) C dX1_becomeLike_25 rfl ?_
  refine p_get (pc := 26) C fl_X1_45 dX1_becomeLike_26 (by first | exact ha | exact hb | exact hc | exact he) (by (repeat refine mg_n (by omega) ?_); first | assumption | exact mup_s _ _ _) (by rfl) ?_
  refine p_putL (pc := 29) (fs' := [_, _, _, _, _]) C fp_X1_45 dX1_becomeLike_29 (by first | exact ha | exact hb | exact hc | exact he) (by (repeat refine mg_n (by omega) ?_); first | assumption | exact mup_s _ _ _) (by exact Nat.le_of_ble_eq_true rfl) (by rfl) ?_
  try refine p_mem (mup_mup _ _ _ _) ?_
  refine p_aload_n (pc := 32) C dX1_becomeLike_32 rfl ?_
  refine p_get (pc := 33) C fl_X1_9 dX1_becomeLike_33 (by first | exact ha | exact hb | exact hc | exact he) (by (repeat refine mg_n (by omega) ?_); first | assumption | exact mup_s _ _ _) (by rfl) ?_
  refine p_iconst (pc := 36) C dX1_becomeLike_36 (by decide) ?_
  refine p_aload_n (pc := 37) C dX1_becomeLike_37 rfl ?_
  refine p_get (pc := 38) C fl_X1_9 dX1_becomeLike_38 (by first | exact ha | exact hb | exact hc | exact he) (by (repeat refine mg_n (by omega) ?_); first | assumption | exact mup_s _ _ _) (by rfl) ?_
  refine p_iconst (pc := 41) C dX1_becomeLike_41 (by decide) ?_
  refine p_iconst (pc := 42) C dX1_becomeLike_42 (by decide) ?_
  refine p_copy (pc := 43) C kl_X1_48 dX1_becomeLike_43 (by first | exact ha | exact hb | exact hc | exact he) (by first | exact ha | exact hb | exact hc | exact he) (by (repeat refine mg_n (by omega) ?_); first | assumption | exact mup_s _ _ _) (by (repeat refine mg_n (by omega) ?_); first | assumption | exact mup_s _ _ _) (by omega) (by omega) (by omega) (by omega) (by omega) ?_
  refine p_vret (pc := 46) C dX1_becomeLike_46 ?_
  exact ⟨rfl, rfl⟩
end
section
/-- one ship's day -/
def sdG (rg f : Int → Int) (kd nm sg pt : Int) : Int := if brg kd sg < rg pt then gtg f nm else -9
def sdF (f : Int → Int) (g : Int) : Int → Int := if g = -9 then f else fup f g (f g - 1)
def nxp (np p : Int) : Int := if p + 1 < np then p + 1 else 0
theorem gtg_r {f : Int → Int} {nm m : Int} (hb : bd4 f m) (hn : 0 ≤ nm ∧ nm < 4) : (gtg f nm = -9 ∧ f 0 = 0 ∧ f 1 = 0 ∧ f 2 = 0 ∧ f 3 = 0) ∨ ((0 ≤ gtg f nm ∧ gtg f nm < 4) ∧ 0 < f (gtg f nm)) := by
  have hm := hb.at hn.1 hn.2
  obtain ⟨⟨b0, b1⟩, ⟨b2, b3⟩, ⟨b4, b5⟩, ⟨b6, b7⟩⟩ := hb
  unfold gtg
  by_cases h : f nm ≠ 0
  · rw [if_pos h]; exact Or.inr ⟨hn, by omega⟩
  · rw [if_neg h]
    by_cases h0 : 0 < f 0
    · rw [if_pos h0]; exact Or.inr ⟨by omega, h0⟩
    · rw [if_neg h0]
      by_cases h1 : 0 < f 1
      · rw [if_pos h1]; exact Or.inr ⟨by omega, h1⟩
      · rw [if_neg h1]
        by_cases h2 : 0 < f 2
        · rw [if_pos h2]; exact Or.inr ⟨by omega, h2⟩
        · rw [if_neg h2]
          by_cases h3 : 0 < f 3
          · rw [if_pos h3]; exact Or.inr ⟨by omega, h3⟩
          · rw [if_neg h3]; exact Or.inl ⟨rfl, by omega, by omega, by omega, by omega⟩
theorem brg_r {kd sg : Int} (hs : 0 ≤ sg ∧ sg ≤ 9) : 0 ≤ brg kd sg ∧ brg kd sg ≤ 18 := by
  unfold brg; split
  · omega
  · split <;> omega
theorem nxp_r {np p : Int} (h : 0 ≤ p) (hn : 0 < np) : 0 ≤ nxp np p ∧ nxp np p < np := by
  unfold nxp; split <;> omega
theorem bd4_fup {f : Int → Int} {m g v : Int} (hb : bd4 f m) (hv : 0 ≤ v ∧ v ≤ m) : bd4 (fup f g v) m := by
  obtain ⟨b0, b1, b2, b3⟩ := hb
  unfold bd4 fup
  refine ⟨?_, ?_, ?_, ?_⟩ <;> (split <;> assumption)
theorem sdF_b {f : Int → Int} {nm m : Int} (hb : bd4 f m) (hn : 0 ≤ nm ∧ nm < 4) : bd4 (sdF f (gtg f nm)) m := by
  rcases gtg_r hb hn with h | ⟨h, h2⟩
  · unfold sdF; rw [if_pos h.1]; exact hb
  · unfold sdF; rw [if_neg (by omega)]
    have := hb.at h.1 h.2
    exact bd4_fup hb ⟨by omega, by omega⟩

set_option maxHeartbeats 4000000 in
set_option maxRecDepth 100000 in
theorem k_X4_sailDay {K : KX} {d : Nat} {μ : Int → ME} {a c kd nm sg pt : Int} (ha : IR a) (h1 : μ a = oS kd nm sg pt c) {f : Int → Int} (hc : IR c) (h2 : μ c = mA 4 f) {np ns day nr tr fl : Int} (h0 : μ 0 = oY np ns day nr tr fl) {rg : Int → Int} (hr : μ 1 = mA 6 rg) (hnp : np ≤ 6) (hac : a ≠ c) (ha0 : 2 ≤ a) (hc0 : 2 ≤ c) (hpt : 0 ≤ pt ∧ pt < np) (hsg : 0 ≤ sg ∧ sg ≤ 9) (hnm : 0 ≤ nm ∧ nm < 4) (hb : bd4 f 9) : Ct K (d + 2) yX4_sailDay cX4_sailDay 3 (some .int) [vR 0, vR a] μ (pF (vI (sdG rg f kd nm sg pt)) (mup (mup μ c (mA 4 (sdF f (sdG rg f kd nm sg pt)))) a (oS kd nm sg (nxp np pt) c))) := by
  refine Ct.of (by decide) (Nat.le_of_ble_eq_true rfl) (fun X C => ?_)
  refine p_aload_n (pc := 0) C dX4_sailDay_0 rfl ?_
  refine p_get (pc := 1) C fl_X4_11 dX4_sailDay_1 (by first | exact ha | exact hc | exact ⟨by omega, by omega⟩) (by (repeat refine mg_n (by omega) ?_); first | assumption | exact mup_s _ _ _) (by rfl) ?_
  refine p_aload_n (pc := 4) C dX4_sailDay_4 rfl ?_
  refine p_get (pc := 5) C fl_X4_105 dX4_sailDay_5 (by first | exact ha | exact hc | exact ⟨by omega, by omega⟩) (by (repeat refine mg_n (by omega) ?_); first | assumption | exact mup_s _ _ _) (by rfl) ?_
  refine p_iald (pc := 8) C dX4_sailDay_8 (by first | exact ha | exact hc | exact ⟨by omega, by omega⟩) (by (repeat refine mg_n (by omega) ?_); first | assumption | exact mup_s _ _ _) (by omega) ?_
  refine p_aload_n (pc := 9) C dX4_sailDay_9 rfl ?_
  refine p_callVF (pc := 10) C ln_X4_101 dX4_sailDay_10 (k_X1_bearing ha h1 (by omega)) (by first | exact ha | exact hc | exact ⟨by omega, by omega⟩) (by (repeat refine mg_n (by omega) ?_); first | assumption | exact mup_s _ _ _) rfl rfl rfl rfl (Nat.le_of_ble_eq_true rfl) ?_
  refine p_icmp_le (pc := 13) (tgt := 23) C dX4_sailDay_13 (by decide) (fun c_13 => ?_) (fun c_13 => ?_)
  · refine p_bipush (pc := 23) C dX4_sailDay_23 (by decide) ?_
    refine p_istore_n (pc := 25) (ls' := [(2, _), (0, _), (1, _)]) C dX4_sailDay_25 (by decide) rfl ?_
    refine p_iload_n (pc := 26) C dX4_sailDay_26 rfl ?_
    refine p_bipush (pc := 27) C dX4_sailDay_27 (by decide) ?_
    refine p_icmp_eq (pc := 29) (tgt := 42) C dX4_sailDay_29 (by decide) (fun c_29 => ?_) (fun h => absurd h (by decide))
    refine p_aload_n (pc := 42) C dX4_sailDay_42 rfl ?_
    refine p_aload_n (pc := 43) C dX4_sailDay_43 rfl ?_
    refine p_aload_n (pc := 44) C dX4_sailDay_44 rfl ?_
    refine p_get (pc := 45) C fl_X4_105 dX4_sailDay_45 (by first | exact ha | exact hc | exact ⟨by omega, by omega⟩) (by (repeat refine mg_n (by omega) ?_); first | assumption | exact mup_s _ _ _) (by rfl) ?_
    refine p_callVF (pc := 48) C ln_X4_155 dX4_sailDay_48 (k_X4_portBehind (by omega) (by (repeat refine mg_n (by omega) ?_); first | assumption | exact mup_s _ _ _)) (by first | exact ha | exact hc | exact ⟨by omega, by omega⟩) (by (repeat refine mg_n (by omega) ?_); first | assumption | exact mup_s _ _ _) rfl rfl rfl rfl (Nat.le_of_ble_eq_true rfl) ?_
    refine p_putL (pc := 51) (fs' := [_, _, _, _, _]) C fp_X4_105 dX4_sailDay_51 (by first | exact ha | exact hc | exact ⟨by omega, by omega⟩) (by (repeat refine mg_n (by omega) ?_); first | assumption | exact mup_s _ _ _) (by exact Nat.le_of_ble_eq_true rfl) (by rfl) ?_
    try refine p_mem (mup_mup _ _ _ _) ?_
    refine p_iload_n (pc := 54) C dX4_sailDay_54 rfl ?_
    refine p_iret (pc := 55) C dX4_sailDay_55 ?_
    first
      | (have e : sdG rg f kd nm sg pt = gtg f nm := if_pos (by omega)
         rw [e, sdF, if_neg c_29]
         exact ⟨rfl, rfl⟩)
      | (have e : sdG rg f kd nm sg pt = -9 := (if_pos (by omega)).trans c_29
         rw [e, sdF, if_pos rfl, mup_id h2]
         exact ⟨sv (by omega), rfl⟩)
      | (have e : sdG rg f kd nm sg pt = -9 := if_neg (by omega)
         rw [e, sdF, if_pos rfl, mup_id h2]
         exact ⟨rfl, rfl⟩)
  · refine p_aload_n (pc := 16) C dX4_sailDay_16 rfl ?_
    refine p_callVF (pc := 17) C ln_X4_201 dX4_sailDay_17 (k_X1_goodThatGoes ha h1 hc h2 hnm) (by first | exact ha | exact hc | exact ⟨by omega, by omega⟩) (by (repeat refine mg_n (by omega) ?_); first | assumption | exact mup_s _ _ _) rfl rfl rfl rfl (Nat.le_of_ble_eq_true rfl) ?_
    refine p_goto (pc := 20) (tgt := 25) C dX4_sailDay_20 (by decide) ?_
    refine p_istore_n (pc := 25) (ls' := [(2, _), (0, _), (1, _)]) C dX4_sailDay_25 (by decide) rfl ?_
    refine p_iload_n (pc := 26) C dX4_sailDay_26 rfl ?_
    refine p_bipush (pc := 27) C dX4_sailDay_27 (by decide) ?_
    refine p_icmp_eq (pc := 29) (tgt := 42) C dX4_sailDay_29 (by decide) (fun c_29 => ?_) (fun c_29 => ?_)
    · refine p_aload_n (pc := 42) C dX4_sailDay_42 rfl ?_
      refine p_aload_n (pc := 43) C dX4_sailDay_43 rfl ?_
      refine p_aload_n (pc := 44) C dX4_sailDay_44 rfl ?_
      refine p_get (pc := 45) C fl_X4_105 dX4_sailDay_45 (by first | exact ha | exact hc | exact ⟨by omega, by omega⟩) (by (repeat refine mg_n (by omega) ?_); first | assumption | exact mup_s _ _ _) (by rfl) ?_
      refine p_callVF (pc := 48) C ln_X4_155 dX4_sailDay_48 (k_X4_portBehind (by omega) (by (repeat refine mg_n (by omega) ?_); first | assumption | exact mup_s _ _ _)) (by first | exact ha | exact hc | exact ⟨by omega, by omega⟩) (by (repeat refine mg_n (by omega) ?_); first | assumption | exact mup_s _ _ _) rfl rfl rfl rfl (Nat.le_of_ble_eq_true rfl) ?_
      refine p_putL (pc := 51) (fs' := [_, _, _, _, _]) C fp_X4_105 dX4_sailDay_51 (by first | exact ha | exact hc | exact ⟨by omega, by omega⟩) (by (repeat refine mg_n (by omega) ?_); first | assumption | exact mup_s _ _ _) (by exact Nat.le_of_ble_eq_true rfl) (by rfl) ?_
      try refine p_mem (mup_mup _ _ _ _) ?_
      refine p_iload_n (pc := 54) C dX4_sailDay_54 rfl ?_
      refine p_iret (pc := 55) C dX4_sailDay_55 ?_
      first
        | (have e : sdG rg f kd nm sg pt = gtg f nm := if_pos (by omega)
           rw [e, sdF, if_neg c_29]
           exact ⟨rfl, rfl⟩)
        | (have e : sdG rg f kd nm sg pt = -9 := (if_pos (by omega)).trans c_29
           rw [e, sdF, if_pos rfl, mup_id h2]
           exact ⟨sv (by omega), rfl⟩)
        | (have e : sdG rg f kd nm sg pt = -9 := if_neg (by omega)
           rw [e, sdF, if_pos rfl, mup_id h2]
           exact ⟨rfl, rfl⟩)
    · have hg : 0 ≤ gtg f nm ∧ gtg f nm < 4 := (gtg_r hb hnm).elim (fun h => absurd h.1 c_29) (fun h => h.1)
      have hg2 := hb.at hg.1 hg.2
      refine p_aload_n (pc := 32) C dX4_sailDay_32 rfl ?_
      refine p_get (pc := 33) C fl_X4_121 dX4_sailDay_33 (by first | exact ha | exact hc | exact ⟨by omega, by omega⟩) (by (repeat refine mg_n (by omega) ?_); first | assumption | exact mup_s _ _ _) (by rfl) ?_
      refine p_iload_n (pc := 36) C dX4_sailDay_36 rfl ?_
      refine p_dup2 (pc := 37) C dX4_sailDay_37 rfl rfl ?_
      refine p_iald (pc := 38) C dX4_sailDay_38 (by first | exact ha | exact hc | exact ⟨by omega, by omega⟩) (by (repeat refine mg_n (by omega) ?_); first | assumption | exact mup_s _ _ _) (by omega) ?_
      refine p_iconst (pc := 39) C dX4_sailDay_39 (by decide) ?_
      refine p_isub (pc := 40) C dX4_sailDay_40 ⟨by omega, by omega⟩ ?_
      refine p_iast (pc := 41) C dX4_sailDay_41 (by first | exact ha | exact hc | exact ⟨by omega, by omega⟩) (by (repeat refine mg_n (by omega) ?_); first | assumption | exact mup_s _ _ _) (by omega) ?_
      try refine p_mem (mup_mup _ _ _ _) ?_
      refine p_aload_n (pc := 42) C dX4_sailDay_42 rfl ?_
      refine p_aload_n (pc := 43) C dX4_sailDay_43 rfl ?_
      refine p_aload_n (pc := 44) C dX4_sailDay_44 rfl ?_
      refine p_get (pc := 45) C fl_X4_105 dX4_sailDay_45 (by first | exact ha | exact hc | exact ⟨by omega, by omega⟩) (by (repeat refine mg_n (by omega) ?_); first | assumption | exact mup_s _ _ _) (by rfl) ?_
      refine p_callVF (pc := 48) C ln_X4_155 dX4_sailDay_48 (k_X4_portBehind (by omega) (by (repeat refine mg_n (by omega) ?_); first | assumption | exact mup_s _ _ _)) (by first | exact ha | exact hc | exact ⟨by omega, by omega⟩) (by (repeat refine mg_n (by omega) ?_); first | assumption | exact mup_s _ _ _) rfl rfl rfl rfl (Nat.le_of_ble_eq_true rfl) ?_
      refine p_putL (pc := 51) (fs' := [_, _, _, _, _]) C fp_X4_105 dX4_sailDay_51 (by first | exact ha | exact hc | exact ⟨by omega, by omega⟩) (by (repeat refine mg_n (by omega) ?_); first | assumption | exact mup_s _ _ _) (by exact Nat.le_of_ble_eq_true rfl) (by rfl) ?_
      try refine p_mem (mup_mup _ _ _ _) ?_
      refine p_iload_n (pc := 54) C dX4_sailDay_54 rfl ?_
      refine p_iret (pc := 55) C dX4_sailDay_55 ?_
      first
        | (have e : sdG rg f kd nm sg pt = gtg f nm := if_pos (by omega)
           rw [e, sdF, if_neg c_29]
           exact ⟨rfl, rfl⟩)
        | (have e : sdG rg f kd nm sg pt = -9 := (if_pos (by omega)).trans c_29
           rw [e, sdF, if_pos rfl, mup_id h2]
           exact ⟨sv (by omega), rfl⟩)
        | (have e : sdG rg f kd nm sg pt = -9 := if_neg (by omega)
           rw [e, sdF, if_pos rfl, mup_id h2]
           exact ⟨rfl, rfl⟩)

/-- how many of t days from port p on are too rough; the port behind them -/
def rdN (rg : Int → Int) (np br p : Int) : Nat → Int
  | 0 => 0
  | t + 1 => (if br < rg p then 1 else 0) + rdN rg np br (nxp np p) t
theorem rdN_r (rg : Int → Int) (np br : Int) : ∀ (t : Nat) (p : Int), 0 ≤ rdN rg np br p t ∧ rdN rg np br p t ≤ (t : Int)
  | 0, p => by simp [rdN]
  | t + 1, p => by
    have := rdN_r rg np br t (nxp np p)
    simp only [rdN]
    split <;> (push_cast; omega)

set_option maxHeartbeats 4000000 in
set_option maxRecDepth 100000 in
theorem k_X4_roughDays {K : KX} {d : Nat} {μ : Int → ME} {br fr n : Int} {np ns day nr tr fl : Int} (h0 : μ 0 = oY np ns day nr tr fl) {rg : Int → Int} (hr : μ 1 = mA 6 rg) (hnp : np ≤ 6) (hn : 0 ≤ n ∧ n ≤ 1000) (hf : 0 ≤ fr ∧ fr < np) : Ct K (d + 1) yX4_roughDays cX4_roughDays 7 (some .int) [vR 0, vI br, vI fr, vI n] μ (pF (vI (rdN rg np br fr n.toNat)) μ) := by
  refine Ct.of (by decide) (Nat.le_of_ble_eq_true rfl) (fun X C => ?_)
  have L : ∀ (t : Nat) (i ct p : Int), 0 ≤ i → n - i = (t : Int) → 0 ≤ ct → ct ≤ i → 0 ≤ p → p < np → ct + rdN rg np br p t = rdN rg np br fr n.toNat → PW K X 7 (QM K X (pF (vI (rdN rg np br fr n.toNat)) μ)) 9 [(6, vI i), (5, vI ct), (4, vI p), (0, vR 0), (1, vI br), (2, vI fr), (3, vI n)] [] μ := by
    intro t
    induction t with
    | zero =>
      intro i ct p h1 h2 h3 h4 h5 h6 h7
      refine p_iload (pc := 9) C dX4_roughDays_9 rfl ?_
      refine p_iload_n (pc := 11) C dX4_roughDays_11 rfl ?_
      refine p_icmp_ge (pc := 12) (tgt := 43) C dX4_roughDays_12 (by decide) (fun c_12 => ?_) (fun h => by exfalso; omega)
      refine p_iload (pc := 43) C dX4_roughDays_43 rfl ?_
      refine p_iret (pc := 45) C dX4_roughDays_45 ?_
      exact ⟨sv (by simp only [rdN] at h7; omega), rfl⟩
    | succ t ih =>
      intro i ct p h1 h2 h3 h4 h5 h6 h7
      simp only [rdN] at h7
      have hq := nxp_r (np := np) h5 (by omega)
      refine p_iload (pc := 9) C dX4_roughDays_9 rfl ?_
      refine p_iload_n (pc := 11) C dX4_roughDays_11 rfl ?_
      refine p_icmp_ge (pc := 12) (tgt := 43) C dX4_roughDays_12 (by decide) (fun h => by exfalso; omega) (fun c_12 => ?_)
      refine p_aload_n (pc := 15) C dX4_roughDays_15 rfl ?_
      refine p_get (pc := 16) C fl_X4_11 dX4_roughDays_16 ⟨by omega, by omega⟩ (by (repeat refine mg_n (by omega) ?_); first | assumption | exact mup_s _ _ _) (by rfl) ?_
      refine p_iload (pc := 19) C dX4_roughDays_19 rfl ?_
      refine p_iald (pc := 21) C dX4_roughDays_21 ⟨by omega, by omega⟩ (by (repeat refine mg_n (by omega) ?_); first | assumption | exact mup_s _ _ _) (by omega) ?_
      refine p_iload_n (pc := 22) C dX4_roughDays_22 rfl ?_
      refine p_icmp_le (pc := 23) (tgt := 29) C dX4_roughDays_23 (by decide) (fun c_23 => ?_) (fun c_23 => ?_)
      · refine p_aload_n (pc := 29) C dX4_roughDays_29 rfl ?_
        refine p_iload (pc := 30) C dX4_roughDays_30 rfl ?_
        refine p_callVF (pc := 32) C ln_X4_155 dX4_roughDays_32 (k_X4_portBehind (by omega) h0) ⟨by omega, by omega⟩ (by (repeat refine mg_n (by omega) ?_); first | assumption | exact mup_s _ _ _) rfl rfl rfl rfl (Nat.le_of_ble_eq_true rfl) ?_
        refine p_istore (pc := 35) (ls' := [(4, _), (6, _), (5, _), (0, _), (1, _), (2, _), (3, _)]) C dX4_roughDays_35 (by decide) rfl ?_
        refine p_iinc (pc := 37) (ls' := [(6, _), (4, _), (5, _), (0, _), (1, _), (2, _), (3, _)]) C dX4_roughDays_37 (by decide) rfl ⟨by omega, by omega⟩ rfl ?_
        refine p_goto (pc := 40) (tgt := 9) C dX4_roughDays_40 (by decide) ?_
        refine p_pick [0, 2, 1, 3, 4, 5, 6] (ls' := [(6, _), (5, _), (4, _), (0, _), (1, _), (2, _), (3, _)]) rfl ?_
        first
          | (rw [if_neg (by omega)] at h7
             refine ih (i + 1) ct (nxp np p) (by omega) (by omega) (by omega) (by omega) hq.1 hq.2 (by omega))
          | (rw [if_pos (by omega)] at h7
             refine ih (i + 1) (ct + 1) (nxp np p) (by omega) (by omega) (by omega) (by omega) hq.1 hq.2 (by omega))
      · refine p_iinc (pc := 26) (ls' := [(5, _), (6, _), (4, _), (0, _), (1, _), (2, _), (3, _)]) C dX4_roughDays_26 (by decide) rfl ⟨by omega, by omega⟩ rfl ?_
        refine p_aload_n (pc := 29) C dX4_roughDays_29 rfl ?_
        refine p_iload (pc := 30) C dX4_roughDays_30 rfl ?_
        refine p_callVF (pc := 32) C ln_X4_155 dX4_roughDays_32 (k_X4_portBehind (by omega) h0) ⟨by omega, by omega⟩ (by (repeat refine mg_n (by omega) ?_); first | assumption | exact mup_s _ _ _) rfl rfl rfl rfl (Nat.le_of_ble_eq_true rfl) ?_
        refine p_istore (pc := 35) (ls' := [(4, _), (5, _), (6, _), (0, _), (1, _), (2, _), (3, _)]) C dX4_roughDays_35 (by decide) rfl ?_
        refine p_iinc (pc := 37) (ls' := [(6, _), (4, _), (5, _), (0, _), (1, _), (2, _), (3, _)]) C dX4_roughDays_37 (by decide) rfl ⟨by omega, by omega⟩ rfl ?_
        refine p_goto (pc := 40) (tgt := 9) C dX4_roughDays_40 (by decide) ?_
        refine p_pick [0, 2, 1, 3, 4, 5, 6] (ls' := [(6, _), (5, _), (4, _), (0, _), (1, _), (2, _), (3, _)]) rfl ?_
        first
          | (rw [if_neg (by omega)] at h7
             refine ih (i + 1) ct (nxp np p) (by omega) (by omega) (by omega) (by omega) hq.1 hq.2 (by omega))
          | (rw [if_pos (by omega)] at h7
             refine ih (i + 1) (ct + 1) (nxp np p) (by omega) (by omega) (by omega) (by omega) hq.1 hq.2 (by omega))
  refine p_iload_n (pc := 0) C dX4_roughDays_0 rfl ?_
  refine p_istore (pc := 1) (ls' := [(4, _), (0, _), (1, _), (2, _), (3, _)]) C dX4_roughDays_1 (by decide) rfl ?_
  refine p_iconst (pc := 3) C dX4_roughDays_3 (by decide) ?_
  refine p_istore (pc := 4) (ls' := [(5, _), (4, _), (0, _), (1, _), (2, _), (3, _)]) C dX4_roughDays_4 (by decide) rfl ?_
  refine p_iconst (pc := 6) C dX4_roughDays_6 (by decide) ?_
  refine p_istore (pc := 7) (ls' := [(6, _), (5, _), (4, _), (0, _), (1, _), (2, _), (3, _)]) C dX4_roughDays_7 (by decide) rfl ?_
  exact L n.toNat 0 0 fr (by omega) (by omega) (by omega) (by omega) hf.1 hf.2 (by omega)

set_option maxHeartbeats 4000000 in
set_option maxRecDepth 100000 in
theorem k_X4_roughPorts {K : KX} {d : Nat} {μ : Int → ME} {br : Int} {np ns day nr tr fl : Int} (h0 : μ 0 = oY np ns day nr tr fl) {rg : Int → Int} (hr : μ 1 = mA 6 rg) (hnp : np ≤ 6) (hn : 0 < np) : Ct K (d + 2) yX4_roughPorts cX4_roughPorts 2 (some .int) [vR 0, vI br] μ (pF (vI (rdN rg np br 0 np.toNat)) μ) := by
  refine Ct.of (by decide) (Nat.le_of_ble_eq_true rfl) (fun X C => ?_)
  refine p_aload_n (pc := 0) C dX4_roughPorts_0 rfl ?_
  refine p_iload_n (pc := 1) C dX4_roughPorts_1 rfl ?_
  refine p_iconst (pc := 2) C dX4_roughPorts_2 (by decide) ?_
  refine p_aload_n (pc := 3) C dX4_roughPorts_3 rfl ?_
  refine p_get (pc := 4) C fl_X4_162 dX4_roughPorts_4 ⟨by omega, by omega⟩ (by (repeat refine mg_n (by omega) ?_); first | assumption | exact mup_s _ _ _) (by rfl) ?_
  refine p_callVF (pc := 7) C ln_X4_165 dX4_roughPorts_7 (k_X4_roughDays h0 hr hnp (by omega) (by omega)) ⟨by omega, by omega⟩ (by (repeat refine mg_n (by omega) ?_); first | assumption | exact mup_s _ _ _) rfl rfl rfl rfl (Nat.le_of_ble_eq_true rfl) ?_
  refine p_iret (pc := 10) C dX4_roughPorts_10 ?_
  exact ⟨by first | rfl | (rw [if_pos (by omega)]) | (rw [if_neg (by omega)]) | (congr 2; omega), rfl⟩
end
section
theorem dM_bitCount_0 : decode prog_8_method_49_code 0 = .ok (.iload_n 0, 1) := by decide +kernel
theorem dM_bitCount_1 : decode prog_8_method_49_code 1 = .ok (.iload_n 0, 1) := by decide +kernel
theorem dM_bitCount_2 : decode prog_8_method_49_code 2 = .ok (.iconst 1, 1) := by decide +kernel
theorem dM_bitCount_3 : decode prog_8_method_49_code 3 = .ok (.iushr, 1) := by decide +kernel
theorem dM_bitCount_4 : decode prog_8_method_49_code 4 = .ok (.ldc_w 265, 3) := by decide +kernel
theorem dM_bitCount_7 : decode prog_8_method_49_code 7 = .ok (.iand, 1) := by decide +kernel
theorem dM_bitCount_8 : decode prog_8_method_49_code 8 = .ok (.isub, 1) := by decide +kernel
theorem dM_bitCount_9 : decode prog_8_method_49_code 9 = .ok (.istore_n 0, 1) := by decide +kernel
theorem dM_bitCount_10 : decode prog_8_method_49_code 10 = .ok (.iload_n 0, 1) := by decide +kernel
theorem dM_bitCount_11 : decode prog_8_method_49_code 11 = .ok (.ldc_w 266, 3) := by decide +kernel
theorem dM_bitCount_14 : decode prog_8_method_49_code 14 = .ok (.iand, 1) := by decide +kernel
theorem dM_bitCount_15 : decode prog_8_method_49_code 15 = .ok (.iload_n 0, 1) := by decide +kernel
theorem dM_bitCount_16 : decode prog_8_method_49_code 16 = .ok (.iconst 2, 1) := by decide +kernel
theorem dM_bitCount_17 : decode prog_8_method_49_code 17 = .ok (.iushr, 1) := by decide +kernel
theorem dM_bitCount_18 : decode prog_8_method_49_code 18 = .ok (.ldc_w 266, 3) := by decide +kernel
theorem dM_bitCount_21 : decode prog_8_method_49_code 21 = .ok (.iand, 1) := by decide +kernel
theorem dM_bitCount_22 : decode prog_8_method_49_code 22 = .ok (.iadd, 1) := by decide +kernel
theorem dM_bitCount_23 : decode prog_8_method_49_code 23 = .ok (.istore_n 0, 1) := by decide +kernel
theorem dM_bitCount_24 : decode prog_8_method_49_code 24 = .ok (.iload_n 0, 1) := by decide +kernel
theorem dM_bitCount_25 : decode prog_8_method_49_code 25 = .ok (.iload_n 0, 1) := by decide +kernel
theorem dM_bitCount_26 : decode prog_8_method_49_code 26 = .ok (.iconst 4, 1) := by decide +kernel
theorem dM_bitCount_27 : decode prog_8_method_49_code 27 = .ok (.iushr, 1) := by decide +kernel
theorem dM_bitCount_28 : decode prog_8_method_49_code 28 = .ok (.iadd, 1) := by decide +kernel
theorem dM_bitCount_29 : decode prog_8_method_49_code 29 = .ok (.ldc_w 267, 3) := by decide +kernel
theorem dM_bitCount_32 : decode prog_8_method_49_code 32 = .ok (.iand, 1) := by decide +kernel
theorem dM_bitCount_33 : decode prog_8_method_49_code 33 = .ok (.istore_n 0, 1) := by decide +kernel
theorem dM_bitCount_34 : decode prog_8_method_49_code 34 = .ok (.iload_n 0, 1) := by decide +kernel
theorem dM_bitCount_35 : decode prog_8_method_49_code 35 = .ok (.iload_n 0, 1) := by decide +kernel
theorem dM_bitCount_36 : decode prog_8_method_49_code 36 = .ok (.bipush 8, 2) := by decide +kernel
theorem dM_bitCount_38 : decode prog_8_method_49_code 38 = .ok (.iushr, 1) := by decide +kernel
theorem dM_bitCount_39 : decode prog_8_method_49_code 39 = .ok (.iadd, 1) := by decide +kernel
theorem dM_bitCount_40 : decode prog_8_method_49_code 40 = .ok (.istore_n 0, 1) := by decide +kernel
theorem dM_bitCount_41 : decode prog_8_method_49_code 41 = .ok (.iload_n 0, 1) := by decide +kernel
theorem dM_bitCount_42 : decode prog_8_method_49_code 42 = .ok (.iload_n 0, 1) := by decide +kernel
theorem dM_bitCount_43 : decode prog_8_method_49_code 43 = .ok (.bipush 16, 2) := by decide +kernel
theorem dM_bitCount_45 : decode prog_8_method_49_code 45 = .ok (.iushr, 1) := by decide +kernel
theorem dM_bitCount_46 : decode prog_8_method_49_code 46 = .ok (.iadd, 1) := by decide +kernel
theorem dM_bitCount_47 : decode prog_8_method_49_code 47 = .ok (.istore_n 0, 1) := by decide +kernel
theorem dM_bitCount_48 : decode prog_8_method_49_code 48 = .ok (.iload_n 0, 1) := by decide +kernel
theorem dM_bitCount_49 : decode prog_8_method_49_code 49 = .ok (.bipush 63, 2) := by decide +kernel
theorem dM_bitCount_51 : decode prog_8_method_49_code 51 = .ok (.iand, 1) := by decide +kernel
theorem dM_bitCount_52 : decode prog_8_method_49_code 52 = .ok (.ireturn, 1) := by decide +kernel
theorem km_c : Cond.code Lib.Math.min.name Lib.Math.min.code 2 (some .int) ∈ GW := GW_of 434 (by decide +kernel) (by decide +kernel)
theorem km_s : Cond.static Lib.Math.min.name ∈ GW := GW_of 433 (by decide +kernel) (by decide +kernel)
theorem km_i : Cond.initialized "java/lang/Math" ∈ GW := GW_of 64 (by decide +kernel) (by decide +kernel)
theorem km_X4_298 : Cond.methodLink RX4 298 Lib.Math.min.name ∈ GW := GW_of 432 (by decide +kernel) (by decide +kernel)
theorem km_X2_31 : Cond.methodLink RX2 31 Lib.Math.min.name ∈ GW := GW_of 445 (by decide +kernel) (by decide +kernel)
theorem p_min {K : KX} {X : CX} {nL d : Nat} {Q : State → Prop} {cc : ByteArray} {own : String} {ret : Option FieldType} {pc : Nat} {ls : List (Nat × PV)} {st : List PV} {μ : Int → ME} (C : okX K X cc own nL (d + 1) ret) {idx : Nat} {x y : Int} (hw : Cond.methodLink own idx Lib.Math.min.name ∈ GW) (dg : decode cc pc = .ok (.invokestatic idx, 3)) (hsz : (st.map fun v => if isL v = true then 2 else 1).sum ≤ 8) (k : PW K X nL Q (pc + 3) ls (vI (if y < x then y else x) :: st) μ) : PW K X nL Q pc ls (vI y :: vI x :: st) μ := fun H locs la hP hS hl hμ hL hs => by
  have ry : rng y := hs.hd
  have rx : rng x := hs.tl.hd
  have hR := C.2.2.2.2.2.2.2.2.1
  refine va_mmin C.1 C.2.1 (by rw [C.2.2.1]; exact hl.1.symm) C.2.2.2.1 (C.2.2.2.2.1 _ hw) (C.2.2.2.2.1 _ km_s) (C.2.2.2.2.1 _ km_i) (C.2.2.2.2.1 _ km_c) (by omega) (by rw [cat_sum]; omega) C.2.2.2.2.2.2.2.2.2.1 C.2.2.2.2.2.2.2.2.2.2 dg ?_
  have h := k H locs la hP hS hl hμ hL (hs.tl.tl.cons (show okV (vI _) by show rng _; split <;> assumption))
  have e : (if Int32.ofInt y < Int32.ofInt x then Int32.ofInt y else Int32.ofInt x) = Int32.ofInt (if y < x then y else x) := by
    by_cases c : y < x
    · rw [if_pos c, if_pos ((zi_lt ry rx).mpr c)]
    · rw [if_neg c, if_neg (fun z => c ((zi_lt ry rx).mp z))]
  rw [e]
  exact h

/-- bits counted -/
def bcI (v : Int) : Int :=
  let a := iwr (v - iAnd (iUshr v 1) (1431655765 : Int32).toInt)
  let b := iwr (iAnd a (858993459 : Int32).toInt + iAnd (iUshr a 2) (858993459 : Int32).toInt)
  let c := iAnd (iwr (b + iUshr b 4)) (252645135 : Int32).toInt
  let d := iwr (c + iUshr c 8)
  let e := iwr (d + iUshr d 16)
  iAnd e 63

set_option maxHeartbeats 4000000 in
set_option maxRecDepth 100000 in
theorem k_M_bitCount {K : KX} {d : Nat} {μ : Int → ME} {v : Int} : Ct K (d) yM_bitCount prog_8_method_49_code 1 (some .int) [vI v] μ (pF (vI (bcI v)) μ) := by
  refine Ct.of (by decide) (Nat.le_of_ble_eq_true rfl) (fun X C => ?_)
  refine p_iload_n (pc := 0) C dM_bitCount_0 rfl ?_
  refine p_iload_n (pc := 1) C dM_bitCount_1 rfl ?_
  refine p_iconst (pc := 2) C dM_bitCount_2 (by decide) ?_
  refine p_iushr (pc := 3) C dM_bitCount_3 ?_
  refine p_ldcw (pc := 4) C kc_M_265 dM_bitCount_4 ?_
  refine p_iand (pc := 7) C dM_bitCount_7 ?_
  refine p_isubw (pc := 8) C dM_bitCount_8 ?_
  refine p_istore_n (pc := 9) (ls' := [(0, _)]) C dM_bitCount_9 (by decide) rfl ?_
  refine p_iload_n (pc := 10) C dM_bitCount_10 rfl ?_
  refine p_ldcw (pc := 11) C kc_M_266 dM_bitCount_11 ?_
  refine p_iand (pc := 14) C dM_bitCount_14 ?_
  refine p_iload_n (pc := 15) C dM_bitCount_15 rfl ?_
  refine p_iconst (pc := 16) C dM_bitCount_16 (by decide) ?_
  refine p_iushr (pc := 17) C dM_bitCount_17 ?_
  refine p_ldcw (pc := 18) C kc_M_266 dM_bitCount_18 ?_
  refine p_iand (pc := 21) C dM_bitCount_21 ?_
  refine p_iaddw (pc := 22) C dM_bitCount_22 ?_
  refine p_istore_n (pc := 23) (ls' := [(0, _)]) C dM_bitCount_23 (by decide) rfl ?_
  refine p_iload_n (pc := 24) C dM_bitCount_24 rfl ?_
  refine p_iload_n (pc := 25) C dM_bitCount_25 rfl ?_
  refine p_iconst (pc := 26) C dM_bitCount_26 (by decide) ?_
  refine p_iushr (pc := 27) C dM_bitCount_27 ?_
  refine p_iaddw (pc := 28) C dM_bitCount_28 ?_
  refine p_ldcw (pc := 29) C kc_M_267 dM_bitCount_29 ?_
  refine p_iand (pc := 32) C dM_bitCount_32 ?_
  refine p_istore_n (pc := 33) (ls' := [(0, _)]) C dM_bitCount_33 (by decide) rfl ?_
  refine p_iload_n (pc := 34) C dM_bitCount_34 rfl ?_
  refine p_iload_n (pc := 35) C dM_bitCount_35 rfl ?_
  refine p_bipush (pc := 36) C dM_bitCount_36 (by decide) ?_
  refine p_iushr (pc := 38) C dM_bitCount_38 ?_
  refine p_iaddw (pc := 39) C dM_bitCount_39 ?_
  refine p_istore_n (pc := 40) (ls' := [(0, _)]) C dM_bitCount_40 (by decide) rfl ?_
  refine p_iload_n (pc := 41) C dM_bitCount_41 rfl ?_
  refine p_iload_n (pc := 42) C dM_bitCount_42 rfl ?_
  refine p_bipush (pc := 43) C dM_bitCount_43 (by decide) ?_
  refine p_iushr (pc := 45) C dM_bitCount_45 ?_
  refine p_iaddw (pc := 46) C dM_bitCount_46 ?_
  refine p_istore_n (pc := 47) (ls' := [(0, _)]) C dM_bitCount_47 (by decide) rfl ?_
  refine p_iload_n (pc := 48) C dM_bitCount_48 rfl ?_
  refine p_bipush (pc := 49) C dM_bitCount_49 (by decide) ?_
  refine p_iand (pc := 51) C dM_bitCount_51 ?_
  refine p_iret (pc := 52) C dM_bitCount_52 ?_
  exact ⟨rfl, rfl⟩

/-- between 0 and m -/
def cl0 (x m : Int) : Int := if x ≤ 0 then 0 else if x ≤ m then x else m
def cum (f : Int → Int) (nm j : Int) : Int := (if 0 < j ∧ nm ≠ 0 then f 0 else 0) + (if 1 < j ∧ nm ≠ 1 then f 1 else 0) + (if 2 < j ∧ nm ≠ 2 then f 2 else 0)
/-- what is lost of a good when r pieces go -/
def los (f : Int → Int) (nm r j : Int) : Int := if j = nm then cl0 r (f nm) else cl0 (r - cl0 r (f nm) - cum f nm j) (f j)

set_option maxHeartbeats 4000000 in
set_option maxRecDepth 100000 in
theorem k_X4_fillLosses {K : KX} {d : Nat} {μ : Int → ME} {a c nm r : Int} {f g : Int → Int} (ha : IR a) (h1 : μ a = mA 4 f) (hc : IR c) (h2 : μ c = mA 4 g) (hac : a ≠ c) (hn : 0 ≤ nm ∧ nm < 4) (hb : bd4 f 100) (hr : 0 ≤ r ∧ r ≤ 1000) : Ct K (d + 1) yX4_fillLosses cX4_fillLosses 6 none [vR a, vI nm, vI r, vR c] μ (fun v μ' => v = none ∧ ∃ G : Int → Int, μ' = mup μ c (mA 4 G) ∧ ∀ j, 0 ≤ j → j < 4 → G j = los f nm r j) := by
  refine Ct.of (by decide) (Nat.le_of_ble_eq_true rfl) (fun X C => ?_)
  obtain ⟨⟨b0, b1⟩, ⟨b2, b3⟩, ⟨b4, b5⟩, ⟨b6, b7⟩⟩ := id hb
  rcases (show nm = 0 ∨ nm = 1 ∨ nm = 2 ∨ nm = 3 by omega) with rfl | rfl | rfl | rfl
  · refine p_iload_n (pc := 0) C dX4_fillLosses_0 rfl ?_
    refine p_istore (pc := 1) (ls' := [(4, _), (0, _), (1, _), (2, _), (3, _)]) C dX4_fillLosses_1 (by decide) rfl ?_
    refine p_aload_n (pc := 3) C dX4_fillLosses_3 rfl ?_
    refine p_iload_n (pc := 4) C dX4_fillLosses_4 rfl ?_
    refine p_iload (pc := 5) C dX4_fillLosses_5 rfl ?_
    refine p_aload_n (pc := 7) C dX4_fillLosses_7 rfl ?_
    refine p_iload_n (pc := 8) C dX4_fillLosses_8 rfl ?_
    refine p_iald (pc := 9) C dX4_fillLosses_9 (by first | exact ha | exact hc) (by (repeat refine mg_n (by omega) ?_); first | assumption | exact mup_s _ _ _) (by omega) ?_
    try refine p_top (fup_s _ _ _) ?_
    refine p_min (pc := 10) C km_X4_298 dX4_fillLosses_10 (Nat.le_of_ble_eq_true rfl) ?_
    refine p_iast (pc := 13) C dX4_fillLosses_13 (by first | exact ha | exact hc) (by (repeat refine mg_n (by omega) ?_); first | assumption | exact mup_s _ _ _) (by omega) ?_
    try refine p_mem (mup_mup _ _ _ _) ?_
    refine p_iload (pc := 14) C dX4_fillLosses_14 rfl ?_
    refine p_aload_n (pc := 16) C dX4_fillLosses_16 rfl ?_
    refine p_iload_n (pc := 17) C dX4_fillLosses_17 rfl ?_
    refine p_iald (pc := 18) C dX4_fillLosses_18 (by first | exact ha | exact hc) (by (repeat refine mg_n (by omega) ?_); first | assumption | exact mup_s _ _ _) (by omega) ?_
    try refine p_top (fup_s _ _ _) ?_
    refine p_isub (pc := 19) C dX4_fillLosses_19 ⟨by omega, by omega⟩ ?_
    refine p_istore (pc := 20) (ls' := [(4, _), (0, _), (1, _), (2, _), (3, _)]) C dX4_fillLosses_20 (by decide) rfl ?_
    refine p_iconst (pc := 22) C dX4_fillLosses_22 (by decide) ?_
    refine p_istore (pc := 23) (ls' := [(5, _), (4, _), (0, _), (1, _), (2, _), (3, _)]) C dX4_fillLosses_23 (by decide) rfl ?_
    refine p_iload (pc := 25) C dX4_fillLosses_25 rfl ?_
    refine p_iconst (pc := 27) C dX4_fillLosses_27 (by decide) ?_
    refine p_icmp_ge (pc := 28) (tgt := 65) C dX4_fillLosses_28 (by decide) (fun h => absurd h (by decide)) (fun c_28 => ?_)
    refine p_iload (pc := 31) C dX4_fillLosses_31 rfl ?_
    refine p_iload_n (pc := 33) C dX4_fillLosses_33 rfl ?_
    refine p_icmp_eq (pc := 34) (tgt := 59) C dX4_fillLosses_34 (by decide) (fun c_34 => ?_) (fun h => absurd h (by decide))
    refine p_iincC (pc := 59) (w := 1) (ls' := [(5, _), (4, _), (0, _), (1, _), (2, _), (3, _)]) C dX4_fillLosses_59 (by decide) rfl (by decide) (by decide) rfl ?_
    refine p_goto (pc := 62) (tgt := 25) C dX4_fillLosses_62 (by decide) ?_
    refine p_iload (pc := 25) C dX4_fillLosses_25 rfl ?_
    refine p_iconst (pc := 27) C dX4_fillLosses_27 (by decide) ?_
    refine p_icmp_ge (pc := 28) (tgt := 65) C dX4_fillLosses_28 (by decide) (fun h => absurd h (by decide)) (fun c_28 => ?_)
    refine p_iload (pc := 31) C dX4_fillLosses_31 rfl ?_
    refine p_iload_n (pc := 33) C dX4_fillLosses_33 rfl ?_
    refine p_icmp_eq (pc := 34) (tgt := 59) C dX4_fillLosses_34 (by decide) (fun h => absurd h (by decide)) (fun c_34 => ?_)
    refine p_aload_n (pc := 37) C dX4_fillLosses_37 rfl ?_
    refine p_iload (pc := 38) C dX4_fillLosses_38 rfl ?_
    refine p_iload (pc := 40) C dX4_fillLosses_40 rfl ?_
    refine p_aload_n (pc := 42) C dX4_fillLosses_42 rfl ?_
    refine p_iload (pc := 43) C dX4_fillLosses_43 rfl ?_
    refine p_iald (pc := 45) C dX4_fillLosses_45 (by first | exact ha | exact hc) (by (repeat refine mg_n (by omega) ?_); first | assumption | exact mup_s _ _ _) (by omega) ?_
    try refine p_top (fup_s _ _ _) ?_
    refine p_min (pc := 46) C km_X4_298 dX4_fillLosses_46 (Nat.le_of_ble_eq_true rfl) ?_
    refine p_iast (pc := 49) C dX4_fillLosses_49 (by first | exact ha | exact hc) (by (repeat refine mg_n (by omega) ?_); first | assumption | exact mup_s _ _ _) (by omega) ?_
    try refine p_mem (mup_mup _ _ _ _) ?_
    refine p_iload (pc := 50) C dX4_fillLosses_50 rfl ?_
    refine p_aload_n (pc := 52) C dX4_fillLosses_52 rfl ?_
    refine p_iload (pc := 53) C dX4_fillLosses_53 rfl ?_
    refine p_iald (pc := 55) C dX4_fillLosses_55 (by first | exact ha | exact hc) (by (repeat refine mg_n (by omega) ?_); first | assumption | exact mup_s _ _ _) (by omega) ?_
    try refine p_top (fup_s _ _ _) ?_
    refine p_isub (pc := 56) C dX4_fillLosses_56 ⟨by omega, by omega⟩ ?_
    refine p_istore (pc := 57) (ls' := [(4, _), (5, _), (0, _), (1, _), (2, _), (3, _)]) C dX4_fillLosses_57 (by decide) rfl ?_
    refine p_iincC (pc := 59) (w := 2) (ls' := [(5, _), (4, _), (0, _), (1, _), (2, _), (3, _)]) C dX4_fillLosses_59 (by decide) rfl (by decide) (by decide) rfl ?_
    refine p_goto (pc := 62) (tgt := 25) C dX4_fillLosses_62 (by decide) ?_
    refine p_iload (pc := 25) C dX4_fillLosses_25 rfl ?_
    refine p_iconst (pc := 27) C dX4_fillLosses_27 (by decide) ?_
    refine p_icmp_ge (pc := 28) (tgt := 65) C dX4_fillLosses_28 (by decide) (fun h => absurd h (by decide)) (fun c_28 => ?_)
    refine p_iload (pc := 31) C dX4_fillLosses_31 rfl ?_
    refine p_iload_n (pc := 33) C dX4_fillLosses_33 rfl ?_
    refine p_icmp_eq (pc := 34) (tgt := 59) C dX4_fillLosses_34 (by decide) (fun h => absurd h (by decide)) (fun c_34 => ?_)
    refine p_aload_n (pc := 37) C dX4_fillLosses_37 rfl ?_
    refine p_iload (pc := 38) C dX4_fillLosses_38 rfl ?_
    refine p_iload (pc := 40) C dX4_fillLosses_40 rfl ?_
    refine p_aload_n (pc := 42) C dX4_fillLosses_42 rfl ?_
    refine p_iload (pc := 43) C dX4_fillLosses_43 rfl ?_
    refine p_iald (pc := 45) C dX4_fillLosses_45 (by first | exact ha | exact hc) (by (repeat refine mg_n (by omega) ?_); first | assumption | exact mup_s _ _ _) (by omega) ?_
    try refine p_top (fup_s _ _ _) ?_
    refine p_min (pc := 46) C km_X4_298 dX4_fillLosses_46 (Nat.le_of_ble_eq_true rfl) ?_
    refine p_iast (pc := 49) C dX4_fillLosses_49 (by first | exact ha | exact hc) (by (repeat refine mg_n (by omega) ?_); first | assumption | exact mup_s _ _ _) (by omega) ?_
    try refine p_mem (mup_mup _ _ _ _) ?_
    refine p_iload (pc := 50) C dX4_fillLosses_50 rfl ?_
    refine p_aload_n (pc := 52) C dX4_fillLosses_52 rfl ?_
    refine p_iload (pc := 53) C dX4_fillLosses_53 rfl ?_
    refine p_iald (pc := 55) C dX4_fillLosses_55 (by first | exact ha | exact hc) (by (repeat refine mg_n (by omega) ?_); first | assumption | exact mup_s _ _ _) (by omega) ?_
    try refine p_top (fup_s _ _ _) ?_
    refine p_isub (pc := 56) C dX4_fillLosses_56 ⟨by omega, by omega⟩ ?_
    refine p_istore (pc := 57) (ls' := [(4, _), (5, _), (0, _), (1, _), (2, _), (3, _)]) C dX4_fillLosses_57 (by decide) rfl ?_
    refine p_iincC (pc := 59) (w := 3) (ls' := [(5, _), (4, _), (0, _), (1, _), (2, _), (3, _)]) C dX4_fillLosses_59 (by decide) rfl (by decide) (by decide) rfl ?_
    refine p_goto (pc := 62) (tgt := 25) C dX4_fillLosses_62 (by decide) ?_
    refine p_iload (pc := 25) C dX4_fillLosses_25 rfl ?_
    refine p_iconst (pc := 27) C dX4_fillLosses_27 (by decide) ?_
    refine p_icmp_ge (pc := 28) (tgt := 65) C dX4_fillLosses_28 (by decide) (fun h => absurd h (by decide)) (fun c_28 => ?_)
    refine p_iload (pc := 31) C dX4_fillLosses_31 rfl ?_
    refine p_iload_n (pc := 33) C dX4_fillLosses_33 rfl ?_
    refine p_icmp_eq (pc := 34) (tgt := 59) C dX4_fillLosses_34 (by decide) (fun h => absurd h (by decide)) (fun c_34 => ?_)
    refine p_aload_n (pc := 37) C dX4_fillLosses_37 rfl ?_
    refine p_iload (pc := 38) C dX4_fillLosses_38 rfl ?_
    refine p_iload (pc := 40) C dX4_fillLosses_40 rfl ?_
    refine p_aload_n (pc := 42) C dX4_fillLosses_42 rfl ?_
    refine p_iload (pc := 43) C dX4_fillLosses_43 rfl ?_
    refine p_iald (pc := 45) C dX4_fillLosses_45 (by first | exact ha | exact hc) (by (repeat refine mg_n (by omega) ?_); first | assumption | exact mup_s _ _ _) (by omega) ?_
    try refine p_top (fup_s _ _ _) ?_
    refine p_min (pc := 46) C km_X4_298 dX4_fillLosses_46 (Nat.le_of_ble_eq_true rfl) ?_
    refine p_iast (pc := 49) C dX4_fillLosses_49 (by first | exact ha | exact hc) (by (repeat refine mg_n (by omega) ?_); first | assumption | exact mup_s _ _ _) (by omega) ?_
    try refine p_mem (mup_mup _ _ _ _) ?_
    refine p_iload (pc := 50) C dX4_fillLosses_50 rfl ?_
    refine p_aload_n (pc := 52) C dX4_fillLosses_52 rfl ?_
    refine p_iload (pc := 53) C dX4_fillLosses_53 rfl ?_
    refine p_iald (pc := 55) C dX4_fillLosses_55 (by first | exact ha | exact hc) (by (repeat refine mg_n (by omega) ?_); first | assumption | exact mup_s _ _ _) (by omega) ?_
    try refine p_top (fup_s _ _ _) ?_
    refine p_isub (pc := 56) C dX4_fillLosses_56 ⟨by omega, by omega⟩ ?_
    refine p_istore (pc := 57) (ls' := [(4, _), (5, _), (0, _), (1, _), (2, _), (3, _)]) C dX4_fillLosses_57 (by decide) rfl ?_
    refine p_iincC (pc := 59) (w := 4) (ls' := [(5, _), (4, _), (0, _), (1, _), (2, _), (3, _)]) C dX4_fillLosses_59 (by decide) rfl (by decide) (by decide) rfl ?_
    refine p_goto (pc := 62) (tgt := 25) C dX4_fillLosses_62 (by decide) ?_
    refine p_iload (pc := 25) C dX4_fillLosses_25 rfl ?_
    refine p_iconst (pc := 27) C dX4_fillLosses_27 (by decide) ?_
    refine p_icmp_ge (pc := 28) (tgt := 65) C dX4_fillLosses_28 (by decide) (fun c_28 => ?_) (fun h => absurd h (by decide))
    refine p_vret (pc := 65) C dX4_fillLosses_65 ?_
    refine ⟨rfl, _, rfl, ?_⟩
    intro j j0 j1
    rcases (show j = 0 ∨ j = 1 ∨ j = 2 ∨ j = 3 by omega) with rfl | rfl | rfl | rfl
    all_goals simp (disch := omega) only [fup_s, fup_n, los, cum, cl0, if_pos, if_neg, ne_eq, Int.reduceEq, not_false_eq_true, not_true_eq_false, and_true, and_false, if_true, if_false, Int.reduceLT, true_and]
    all_goals omega
  · refine p_iload_n (pc := 0) C dX4_fillLosses_0 rfl ?_
    refine p_istore (pc := 1) (ls' := [(4, _), (0, _), (1, _), (2, _), (3, _)]) C dX4_fillLosses_1 (by decide) rfl ?_
    refine p_aload_n (pc := 3) C dX4_fillLosses_3 rfl ?_
    refine p_iload_n (pc := 4) C dX4_fillLosses_4 rfl ?_
    refine p_iload (pc := 5) C dX4_fillLosses_5 rfl ?_
    refine p_aload_n (pc := 7) C dX4_fillLosses_7 rfl ?_
    refine p_iload_n (pc := 8) C dX4_fillLosses_8 rfl ?_
    refine p_iald (pc := 9) C dX4_fillLosses_9 (by first | exact ha | exact hc) (by (repeat refine mg_n (by omega) ?_); first | assumption | exact mup_s _ _ _) (by omega) ?_
    try refine p_top (fup_s _ _ _) ?_
    refine p_min (pc := 10) C km_X4_298 dX4_fillLosses_10 (Nat.le_of_ble_eq_true rfl) ?_
    refine p_iast (pc := 13) C dX4_fillLosses_13 (by first | exact ha | exact hc) (by (repeat refine mg_n (by omega) ?_); first | assumption | exact mup_s _ _ _) (by omega) ?_
    try refine p_mem (mup_mup _ _ _ _) ?_
    refine p_iload (pc := 14) C dX4_fillLosses_14 rfl ?_
    refine p_aload_n (pc := 16) C dX4_fillLosses_16 rfl ?_
    refine p_iload_n (pc := 17) C dX4_fillLosses_17 rfl ?_
    refine p_iald (pc := 18) C dX4_fillLosses_18 (by first | exact ha | exact hc) (by (repeat refine mg_n (by omega) ?_); first | assumption | exact mup_s _ _ _) (by omega) ?_
    try refine p_top (fup_s _ _ _) ?_
    refine p_isub (pc := 19) C dX4_fillLosses_19 ⟨by omega, by omega⟩ ?_
    refine p_istore (pc := 20) (ls' := [(4, _), (0, _), (1, _), (2, _), (3, _)]) C dX4_fillLosses_20 (by decide) rfl ?_
    refine p_iconst (pc := 22) C dX4_fillLosses_22 (by decide) ?_
    refine p_istore (pc := 23) (ls' := [(5, _), (4, _), (0, _), (1, _), (2, _), (3, _)]) C dX4_fillLosses_23 (by decide) rfl ?_
    refine p_iload (pc := 25) C dX4_fillLosses_25 rfl ?_
    refine p_iconst (pc := 27) C dX4_fillLosses_27 (by decide) ?_
    refine p_icmp_ge (pc := 28) (tgt := 65) C dX4_fillLosses_28 (by decide) (fun h => absurd h (by decide)) (fun c_28 => ?_)
    refine p_iload (pc := 31) C dX4_fillLosses_31 rfl ?_
    refine p_iload_n (pc := 33) C dX4_fillLosses_33 rfl ?_
    refine p_icmp_eq (pc := 34) (tgt := 59) C dX4_fillLosses_34 (by decide) (fun h => absurd h (by decide)) (fun c_34 => ?_)
    refine p_aload_n (pc := 37) C dX4_fillLosses_37 rfl ?_
    refine p_iload (pc := 38) C dX4_fillLosses_38 rfl ?_
    refine p_iload (pc := 40) C dX4_fillLosses_40 rfl ?_
    refine p_aload_n (pc := 42) C dX4_fillLosses_42 rfl ?_
    refine p_iload (pc := 43) C dX4_fillLosses_43 rfl ?_
    refine p_iald (pc := 45) C dX4_fillLosses_45 (by first | exact ha | exact hc) (by (repeat refine mg_n (by omega) ?_); first | assumption | exact mup_s _ _ _) (by omega) ?_
    try refine p_top (fup_s _ _ _) ?_
    refine p_min (pc := 46) C km_X4_298 dX4_fillLosses_46 (Nat.le_of_ble_eq_true rfl) ?_
    refine p_iast (pc := 49) C dX4_fillLosses_49 (by first | exact ha | exact hc) (by (repeat refine mg_n (by omega) ?_); first | assumption | exact mup_s _ _ _) (by omega) ?_
    try refine p_mem (mup_mup _ _ _ _) ?_
    refine p_iload (pc := 50) C dX4_fillLosses_50 rfl ?_
    refine p_aload_n (pc := 52) C dX4_fillLosses_52 rfl ?_
    refine p_iload (pc := 53) C dX4_fillLosses_53 rfl ?_
    refine p_iald (pc := 55) C dX4_fillLosses_55 (by first | exact ha | exact hc) (by (repeat refine mg_n (by omega) ?_); first | assumption | exact mup_s _ _ _) (by omega) ?_
    try refine p_top (fup_s _ _ _) ?_
    refine p_isub (pc := 56) C dX4_fillLosses_56 ⟨by omega, by omega⟩ ?_
    refine p_istore (pc := 57) (ls' := [(4, _), (5, _), (0, _), (1, _), (2, _), (3, _)]) C dX4_fillLosses_57 (by decide) rfl ?_
    refine p_iincC (pc := 59) (w := 1) (ls' := [(5, _), (4, _), (0, _), (1, _), (2, _), (3, _)]) C dX4_fillLosses_59 (by decide) rfl (by decide) (by decide) rfl ?_
    refine p_goto (pc := 62) (tgt := 25) C dX4_fillLosses_62 (by decide) ?_
    refine p_iload (pc := 25) C dX4_fillLosses_25 rfl ?_
    refine p_iconst (pc := 27) C dX4_fillLosses_27 (by decide) ?_
    refine p_icmp_ge (pc := 28) (tgt := 65) C dX4_fillLosses_28 (by decide) (fun h => absurd h (by decide)) (fun c_28 => ?_)
    refine p_iload (pc := 31) C dX4_fillLosses_31 rfl ?_
    refine p_iload_n (pc := 33) C dX4_fillLosses_33 rfl ?_
    refine p_icmp_eq (pc := 34) (tgt := 59) C dX4_fillLosses_34 (by decide) (fun c_34 => ?_) (fun h => absurd h (by decide))
    refine p_iincC (pc := 59) (w := 2) (ls' := [(5, _), (4, _), (0, _), (1, _), (2, _), (3, _)]) C dX4_fillLosses_59 (by decide) rfl (by decide) (by decide) rfl ?_
    refine p_goto (pc := 62) (tgt := 25) C dX4_fillLosses_62 (by decide) ?_
    refine p_iload (pc := 25) C dX4_fillLosses_25 rfl ?_
    refine p_iconst (pc := 27) C dX4_fillLosses_27 (by decide) ?_
    refine p_icmp_ge (pc := 28) (tgt := 65) C dX4_fillLosses_28 (by decide) (fun h => absurd h (by decide)) (fun c_28 => ?_)
    refine p_iload (pc := 31) C dX4_fillLosses_31 rfl ?_
    refine p_iload_n (pc := 33) C dX4_fillLosses_33 rfl ?_
    refine p_icmp_eq (pc := 34) (tgt := 59) C dX4_fillLosses_34 (by decide) (fun h => absurd h (by decide)) (fun c_34 => ?_)
    refine p_aload_n (pc := 37) C dX4_fillLosses_37 rfl ?_
    refine p_iload (pc := 38) C dX4_fillLosses_38 rfl ?_
    refine p_iload (pc := 40) C dX4_fillLosses_40 rfl ?_
    refine p_aload_n (pc := 42) C dX4_fillLosses_42 rfl ?_
    refine p_iload (pc := 43) C dX4_fillLosses_43 rfl ?_
    refine p_iald (pc := 45) C dX4_fillLosses_45 (by first | exact ha | exact hc) (by (repeat refine mg_n (by omega) ?_); first | assumption | exact mup_s _ _ _) (by omega) ?_
    try refine p_top (fup_s _ _ _) ?_
    refine p_min (pc := 46) C km_X4_298 dX4_fillLosses_46 (Nat.le_of_ble_eq_true rfl) ?_
    refine p_iast (pc := 49) C dX4_fillLosses_49 (by first | exact ha | exact hc) (by (repeat refine mg_n (by omega) ?_); first | assumption | exact mup_s _ _ _) (by omega) ?_
    try refine p_mem (mup_mup _ _ _ _) ?_
    refine p_iload (pc := 50) C dX4_fillLosses_50 rfl ?_
    refine p_aload_n (pc := 52) C dX4_fillLosses_52 rfl ?_
    refine p_iload (pc := 53) C dX4_fillLosses_53 rfl ?_
    refine p_iald (pc := 55) C dX4_fillLosses_55 (by first | exact ha | exact hc) (by (repeat refine mg_n (by omega) ?_); first | assumption | exact mup_s _ _ _) (by omega) ?_
    try refine p_top (fup_s _ _ _) ?_
    refine p_isub (pc := 56) C dX4_fillLosses_56 ⟨by omega, by omega⟩ ?_
    refine p_istore (pc := 57) (ls' := [(4, _), (5, _), (0, _), (1, _), (2, _), (3, _)]) C dX4_fillLosses_57 (by decide) rfl ?_
    refine p_iincC (pc := 59) (w := 3) (ls' := [(5, _), (4, _), (0, _), (1, _), (2, _), (3, _)]) C dX4_fillLosses_59 (by decide) rfl (by decide) (by decide) rfl ?_
    refine p_goto (pc := 62) (tgt := 25) C dX4_fillLosses_62 (by decide) ?_
    refine p_iload (pc := 25) C dX4_fillLosses_25 rfl ?_
    refine p_iconst (pc := 27) C dX4_fillLosses_27 (by decide) ?_
    refine p_icmp_ge (pc := 28) (tgt := 65) C dX4_fillLosses_28 (by decide) (fun h => absurd h (by decide)) (fun c_28 => ?_)
    refine p_iload (pc := 31) C dX4_fillLosses_31 rfl ?_
    refine p_iload_n (pc := 33) C dX4_fillLosses_33 rfl ?_
    refine p_icmp_eq (pc := 34) (tgt := 59) C dX4_fillLosses_34 (by decide) (fun h => absurd h (by decide)) (fun c_34 => ?_)
    refine p_aload_n (pc := 37) C dX4_fillLosses_37 rfl ?_
    refine p_iload (pc := 38) C dX4_fillLosses_38 rfl ?_
    refine p_iload (pc := 40) C dX4_fillLosses_40 rfl ?_
    refine p_aload_n (pc := 42) C dX4_fillLosses_42 rfl ?_
    refine p_iload (pc := 43) C dX4_fillLosses_43 rfl ?_
    refine p_iald (pc := 45) C dX4_fillLosses_45 (by first | exact ha | exact hc) (by (repeat refine mg_n (by omega) ?_); first | assumption | exact mup_s _ _ _) (by omega) ?_
    try refine p_top (fup_s _ _ _) ?_
    refine p_min (pc := 46) C km_X4_298 dX4_fillLosses_46 (Nat.le_of_ble_eq_true rfl) ?_
    refine p_iast (pc := 49) C dX4_fillLosses_49 (by first | exact ha | exact hc) (by (repeat refine mg_n (by omega) ?_); first | assumption | exact mup_s _ _ _) (by omega) ?_
    try refine p_mem (mup_mup _ _ _ _) ?_
    refine p_iload (pc := 50) C dX4_fillLosses_50 rfl ?_
    refine p_aload_n (pc := 52) C dX4_fillLosses_52 rfl ?_
    refine p_iload (pc := 53) C dX4_fillLosses_53 rfl ?_
    refine p_iald (pc := 55) C dX4_fillLosses_55 (by first | exact ha | exact hc) (by (repeat refine mg_n (by omega) ?_); first | assumption | exact mup_s _ _ _) (by omega) ?_
    try refine p_top (fup_s _ _ _) ?_
    refine p_isub (pc := 56) C dX4_fillLosses_56 ⟨by omega, by omega⟩ ?_
    refine p_istore (pc := 57) (ls' := [(4, _), (5, _), (0, _), (1, _), (2, _), (3, _)]) C dX4_fillLosses_57 (by decide) rfl ?_
    refine p_iincC (pc := 59) (w := 4) (ls' := [(5, _), (4, _), (0, _), (1, _), (2, _), (3, _)]) C dX4_fillLosses_59 (by decide) rfl (by decide) (by decide) rfl ?_
    refine p_goto (pc := 62) (tgt := 25) C dX4_fillLosses_62 (by decide) ?_
    refine p_iload (pc := 25) C dX4_fillLosses_25 rfl ?_
    refine p_iconst (pc := 27) C dX4_fillLosses_27 (by decide) ?_
    refine p_icmp_ge (pc := 28) (tgt := 65) C dX4_fillLosses_28 (by decide) (fun c_28 => ?_) (fun h => absurd h (by decide))
    refine p_vret (pc := 65) C dX4_fillLosses_65 ?_
    refine ⟨rfl, _, rfl, ?_⟩
    intro j j0 j1
    rcases (show j = 0 ∨ j = 1 ∨ j = 2 ∨ j = 3 by omega) with rfl | rfl | rfl | rfl
    all_goals simp (disch := omega) only [fup_s, fup_n, los, cum, cl0, if_pos, if_neg, ne_eq, Int.reduceEq, not_false_eq_true, not_true_eq_false, and_true, and_false, if_true, if_false, Int.reduceLT, true_and]
    all_goals omega
  · refine p_iload_n (pc := 0) C dX4_fillLosses_0 rfl ?_
    refine p_istore (pc := 1) (ls' := [(4, _), (0, _), (1, _), (2, _), (3, _)]) C dX4_fillLosses_1 (by decide) rfl ?_
    refine p_aload_n (pc := 3) C dX4_fillLosses_3 rfl ?_
    refine p_iload_n (pc := 4) C dX4_fillLosses_4 rfl ?_
    refine p_iload (pc := 5) C dX4_fillLosses_5 rfl ?_
    refine p_aload_n (pc := 7) C dX4_fillLosses_7 rfl ?_
    refine p_iload_n (pc := 8) C dX4_fillLosses_8 rfl ?_
    refine p_iald (pc := 9) C dX4_fillLosses_9 (by first | exact ha | exact hc) (by (repeat refine mg_n (by omega) ?_); first | assumption | exact mup_s _ _ _) (by omega) ?_
    try refine p_top (fup_s _ _ _) ?_
    refine p_min (pc := 10) C km_X4_298 dX4_fillLosses_10 (Nat.le_of_ble_eq_true rfl) ?_
    refine p_iast (pc := 13) C dX4_fillLosses_13 (by first | exact ha | exact hc) (by (repeat refine mg_n (by omega) ?_); first | assumption | exact mup_s _ _ _) (by omega) ?_
    try refine p_mem (mup_mup _ _ _ _) ?_
    refine p_iload (pc := 14) C dX4_fillLosses_14 rfl ?_
    refine p_aload_n (pc := 16) C dX4_fillLosses_16 rfl ?_
    refine p_iload_n (pc := 17) C dX4_fillLosses_17 rfl ?_
    refine p_iald (pc := 18) C dX4_fillLosses_18 (by first | exact ha | exact hc) (by (repeat refine mg_n (by omega) ?_); first | assumption | exact mup_s _ _ _) (by omega) ?_
    try refine p_top (fup_s _ _ _) ?_
    refine p_isub (pc := 19) C dX4_fillLosses_19 ⟨by omega, by omega⟩ ?_
    refine p_istore (pc := 20) (ls' := [(4, _), (0, _), (1, _), (2, _), (3, _)]) C dX4_fillLosses_20 (by decide) rfl ?_
    refine p_iconst (pc := 22) C dX4_fillLosses_22 (by decide) ?_
    refine p_istore (pc := 23) (ls' := [(5, _), (4, _), (0, _), (1, _), (2, _), (3, _)]) C dX4_fillLosses_23 (by decide) rfl ?_
    refine p_iload (pc := 25) C dX4_fillLosses_25 rfl ?_
    refine p_iconst (pc := 27) C dX4_fillLosses_27 (by decide) ?_
    refine p_icmp_ge (pc := 28) (tgt := 65) C dX4_fillLosses_28 (by decide) (fun h => absurd h (by decide)) (fun c_28 => ?_)
    refine p_iload (pc := 31) C dX4_fillLosses_31 rfl ?_
    refine p_iload_n (pc := 33) C dX4_fillLosses_33 rfl ?_
    refine p_icmp_eq (pc := 34) (tgt := 59) C dX4_fillLosses_34 (by decide) (fun h => absurd h (by decide)) (fun c_34 => ?_)
    refine p_aload_n (pc := 37) C dX4_fillLosses_37 rfl ?_
    refine p_iload (pc := 38) C dX4_fillLosses_38 rfl ?_
    refine p_iload (pc := 40) C dX4_fillLosses_40 rfl ?_
    refine p_aload_n (pc := 42) C dX4_fillLosses_42 rfl ?_
    refine p_iload (pc := 43) C dX4_fillLosses_43 rfl ?_
    refine p_iald (pc := 45) C dX4_fillLosses_45 (by first | exact ha | exact hc) (by (repeat refine mg_n (by omega) ?_); first | assumption | exact mup_s _ _ _) (by omega) ?_
    try refine p_top (fup_s _ _ _) ?_
    refine p_min (pc := 46) C km_X4_298 dX4_fillLosses_46 (Nat.le_of_ble_eq_true rfl) ?_
    refine p_iast (pc := 49) C dX4_fillLosses_49 (by first | exact ha | exact hc) (by (repeat refine mg_n (by omega) ?_); first | assumption | exact mup_s _ _ _) (by omega) ?_
    try refine p_mem (mup_mup _ _ _ _) ?_
    refine p_iload (pc := 50) C dX4_fillLosses_50 rfl ?_
    refine p_aload_n (pc := 52) C dX4_fillLosses_52 rfl ?_
    refine p_iload (pc := 53) C dX4_fillLosses_53 rfl ?_
    refine p_iald (pc := 55) C dX4_fillLosses_55 (by first | exact ha | exact hc) (by (repeat refine mg_n (by omega) ?_); first | assumption | exact mup_s _ _ _) (by omega) ?_
    try refine p_top (fup_s _ _ _) ?_
    refine p_isub (pc := 56) C dX4_fillLosses_56 ⟨by omega, by omega⟩ ?_
    refine p_istore (pc := 57) (ls' := [(4, _), (5, _), (0, _), (1, _), (2, _), (3, _)]) C dX4_fillLosses_57 (by decide) rfl ?_
    refine p_iincC (pc := 59) (w := 1) (ls' := [(5, _), (4, _), (0, _), (1, _), (2, _), (3, _)]) C dX4_fillLosses_59 (by decide) rfl (by decide) (by decide) rfl ?_
    refine p_goto (pc := 62) (tgt := 25) C dX4_fillLosses_62 (by decide) ?_
    refine p_iload (pc := 25) C dX4_fillLosses_25 rfl ?_
    refine p_iconst (pc := 27) C dX4_fillLosses_27 (by decide) ?_
    refine p_icmp_ge (pc := 28) (tgt := 65) C dX4_fillLosses_28 (by decide) (fun h => absurd h (by decide)) (fun c_28 => ?_)
    refine p_iload (pc := 31) C dX4_fillLosses_31 rfl ?_
    refine p_iload_n (pc := 33) C dX4_fillLosses_33 rfl ?_
    refine p_icmp_eq (pc := 34) (tgt := 59) C dX4_fillLosses_34 (by decide) (fun h => absurd h (by decide)) (fun c_34 => ?_)
    refine p_aload_n (pc := 37) C dX4_fillLosses_37 rfl ?_
    refine p_iload (pc := 38) C dX4_fillLosses_38 rfl ?_
    refine p_iload (pc := 40) C dX4_fillLosses_40 rfl ?_
    refine p_aload_n (pc := 42) C dX4_fillLosses_42 rfl ?_
    refine p_iload (pc := 43) C dX4_fillLosses_43 rfl ?_
    refine p_iald (pc := 45) C dX4_fillLosses_45 (by first | exact ha | exact hc) (by (repeat refine mg_n (by omega) ?_); first | assumption | exact mup_s _ _ _) (by omega) ?_
    try refine p_top (fup_s _ _ _) ?_
    refine p_min (pc := 46) C km_X4_298 dX4_fillLosses_46 (Nat.le_of_ble_eq_true rfl) ?_
    refine p_iast (pc := 49) C dX4_fillLosses_49 (by first | exact ha | exact hc) (by (repeat refine mg_n (by omega) ?_); first | assumption | exact mup_s _ _ _) (by omega) ?_
    try refine p_mem (mup_mup _ _ _ _) ?_
    refine p_iload (pc := 50) C dX4_fillLosses_50 rfl ?_
    refine p_aload_n (pc := 52) C dX4_fillLosses_52 rfl ?_
    refine p_iload (pc := 53) C dX4_fillLosses_53 rfl ?_
    refine p_iald (pc := 55) C dX4_fillLosses_55 (by first | exact ha | exact hc) (by (repeat refine mg_n (by omega) ?_); first | assumption | exact mup_s _ _ _) (by omega) ?_
    try refine p_top (fup_s _ _ _) ?_
    refine p_isub (pc := 56) C dX4_fillLosses_56 ⟨by omega, by omega⟩ ?_
    refine p_istore (pc := 57) (ls' := [(4, _), (5, _), (0, _), (1, _), (2, _), (3, _)]) C dX4_fillLosses_57 (by decide) rfl ?_
    refine p_iincC (pc := 59) (w := 2) (ls' := [(5, _), (4, _), (0, _), (1, _), (2, _), (3, _)]) C dX4_fillLosses_59 (by decide) rfl (by decide) (by decide) rfl ?_
    refine p_goto (pc := 62) (tgt := 25) C dX4_fillLosses_62 (by decide) ?_
    refine p_iload (pc := 25) C dX4_fillLosses_25 rfl ?_
    refine p_iconst (pc := 27) C dX4_fillLosses_27 (by decide) ?_
    refine p_icmp_ge (pc := 28) (tgt := 65) C dX4_fillLosses_28 (by decide) (fun h => absurd h (by decide)) (fun c_28 => ?_)
    refine p_iload (pc := 31) C dX4_fillLosses_31 rfl ?_
    refine p_iload_n (pc := 33) C dX4_fillLosses_33 rfl ?_
    refine p_icmp_eq (pc := 34) (tgt := 59) C dX4_fillLosses_34 (by decide) (fun c_34 => ?_) (fun h => absurd h (by decide))
    refine p_iincC (pc := 59) (w := 3) (ls' := [(5, _), (4, _), (0, _), (1, _), (2, _), (3, _)]) C dX4_fillLosses_59 (by decide) rfl (by decide) (by decide) rfl ?_
    refine p_goto (pc := 62) (tgt := 25) C dX4_fillLosses_62 (by decide) ?_
    refine p_iload (pc := 25) C dX4_fillLosses_25 rfl ?_
    refine p_iconst (pc := 27) C dX4_fillLosses_27 (by decide) ?_
    refine p_icmp_ge (pc := 28) (tgt := 65) C dX4_fillLosses_28 (by decide) (fun h => absurd h (by decide)) (fun c_28 => ?_)
    refine p_iload (pc := 31) C dX4_fillLosses_31 rfl ?_
    refine p_iload_n (pc := 33) C dX4_fillLosses_33 rfl ?_
    refine p_icmp_eq (pc := 34) (tgt := 59) C dX4_fillLosses_34 (by decide) (fun h => absurd h (by decide)) (fun c_34 => ?_)
    refine p_aload_n (pc := 37) C dX4_fillLosses_37 rfl ?_
    refine p_iload (pc := 38) C dX4_fillLosses_38 rfl ?_
    refine p_iload (pc := 40) C dX4_fillLosses_40 rfl ?_
    refine p_aload_n (pc := 42) C dX4_fillLosses_42 rfl ?_
    refine p_iload (pc := 43) C dX4_fillLosses_43 rfl ?_
    refine p_iald (pc := 45) C dX4_fillLosses_45 (by first | exact ha | exact hc) (by (repeat refine mg_n (by omega) ?_); first | assumption | exact mup_s _ _ _) (by omega) ?_
    try refine p_top (fup_s _ _ _) ?_
    refine p_min (pc := 46) C km_X4_298 dX4_fillLosses_46 (Nat.le_of_ble_eq_true rfl) ?_
    refine p_iast (pc := 49) C dX4_fillLosses_49 (by first | exact ha | exact hc) (by (repeat refine mg_n (by omega) ?_); first | assumption | exact mup_s _ _ _) (by omega) ?_
    try refine p_mem (mup_mup _ _ _ _) ?_
    refine p_iload (pc := 50) C dX4_fillLosses_50 rfl ?_
    refine p_aload_n (pc := 52) C dX4_fillLosses_52 rfl ?_
    refine p_iload (pc := 53) C dX4_fillLosses_53 rfl ?_
    refine p_iald (pc := 55) C dX4_fillLosses_55 (by first | exact ha | exact hc) (by (repeat refine mg_n (by omega) ?_); first | assumption | exact mup_s _ _ _) (by omega) ?_
    try refine p_top (fup_s _ _ _) ?_
    refine p_isub (pc := 56) C dX4_fillLosses_56 ⟨by omega, by omega⟩ ?_
    refine p_istore (pc := 57) (ls' := [(4, _), (5, _), (0, _), (1, _), (2, _), (3, _)]) C dX4_fillLosses_57 (by decide) rfl ?_
    refine p_iincC (pc := 59) (w := 4) (ls' := [(5, _), (4, _), (0, _), (1, _), (2, _), (3, _)]) C dX4_fillLosses_59 (by decide) rfl (by decide) (by decide) rfl ?_
    refine p_goto (pc := 62) (tgt := 25) C dX4_fillLosses_62 (by decide) ?_
    refine p_iload (pc := 25) C dX4_fillLosses_25 rfl ?_
    refine p_iconst (pc := 27) C dX4_fillLosses_27 (by decide) ?_
    refine p_icmp_ge (pc := 28) (tgt := 65) C dX4_fillLosses_28 (by decide) (fun c_28 => ?_) (fun h => absurd h (by decide))
    refine p_vret (pc := 65) C dX4_fillLosses_65 ?_
    refine ⟨rfl, _, rfl, ?_⟩
    intro j j0 j1
    rcases (show j = 0 ∨ j = 1 ∨ j = 2 ∨ j = 3 by omega) with rfl | rfl | rfl | rfl
    all_goals simp (disch := omega) only [fup_s, fup_n, los, cum, cl0, if_pos, if_neg, ne_eq, Int.reduceEq, not_false_eq_true, not_true_eq_false, and_true, and_false, if_true, if_false, Int.reduceLT, true_and]
    all_goals omega
  · refine p_iload_n (pc := 0) C dX4_fillLosses_0 rfl ?_
    refine p_istore (pc := 1) (ls' := [(4, _), (0, _), (1, _), (2, _), (3, _)]) C dX4_fillLosses_1 (by decide) rfl ?_
    refine p_aload_n (pc := 3) C dX4_fillLosses_3 rfl ?_
    refine p_iload_n (pc := 4) C dX4_fillLosses_4 rfl ?_
    refine p_iload (pc := 5) C dX4_fillLosses_5 rfl ?_
    refine p_aload_n (pc := 7) C dX4_fillLosses_7 rfl ?_
    refine p_iload_n (pc := 8) C dX4_fillLosses_8 rfl ?_
    refine p_iald (pc := 9) C dX4_fillLosses_9 (by first | exact ha | exact hc) (by (repeat refine mg_n (by omega) ?_); first | assumption | exact mup_s _ _ _) (by omega) ?_
    try refine p_top (fup_s _ _ _) ?_
    refine p_min (pc := 10) C km_X4_298 dX4_fillLosses_10 (Nat.le_of_ble_eq_true rfl) ?_
    refine p_iast (pc := 13) C dX4_fillLosses_13 (by first | exact ha | exact hc) (by (repeat refine mg_n (by omega) ?_); first | assumption | exact mup_s _ _ _) (by omega) ?_
    try refine p_mem (mup_mup _ _ _ _) ?_
    refine p_iload (pc := 14) C dX4_fillLosses_14 rfl ?_
    refine p_aload_n (pc := 16) C dX4_fillLosses_16 rfl ?_
    refine p_iload_n (pc := 17) C dX4_fillLosses_17 rfl ?_
    refine p_iald (pc := 18) C dX4_fillLosses_18 (by first | exact ha | exact hc) (by (repeat refine mg_n (by omega) ?_); first | assumption | exact mup_s _ _ _) (by omega) ?_
    try refine p_top (fup_s _ _ _) ?_
    refine p_isub (pc := 19) C dX4_fillLosses_19 ⟨by omega, by omega⟩ ?_
    refine p_istore (pc := 20) (ls' := [(4, _), (0, _), (1, _), (2, _), (3, _)]) C dX4_fillLosses_20 (by decide) rfl ?_
    refine p_iconst (pc := 22) C dX4_fillLosses_22 (by decide) ?_
    refine p_istore (pc := 23) (ls' := [(5, _), (4, _), (0, _), (1, _), (2, _), (3, _)]) C dX4_fillLosses_23 (by decide) rfl ?_
    refine p_iload (pc := 25) C dX4_fillLosses_25 rfl ?_
    refine p_iconst (pc := 27) C dX4_fillLosses_27 (by decide) ?_
    refine p_icmp_ge (pc := 28) (tgt := 65) C dX4_fillLosses_28 (by decide) (fun h => absurd h (by decide)) (fun c_28 => ?_)
    refine p_iload (pc := 31) C dX4_fillLosses_31 rfl ?_
    refine p_iload_n (pc := 33) C dX4_fillLosses_33 rfl ?_
    refine p_icmp_eq (pc := 34) (tgt := 59) C dX4_fillLosses_34 (by decide) (fun h => absurd h (by decide)) (fun c_34 => ?_)
    refine p_aload_n (pc := 37) C dX4_fillLosses_37 rfl ?_
    refine p_iload (pc := 38) C dX4_fillLosses_38 rfl ?_
    refine p_iload (pc := 40) C dX4_fillLosses_40 rfl ?_
    refine p_aload_n (pc := 42) C dX4_fillLosses_42 rfl ?_
    refine p_iload (pc := 43) C dX4_fillLosses_43 rfl ?_
    refine p_iald (pc := 45) C dX4_fillLosses_45 (by first | exact ha | exact hc) (by (repeat refine mg_n (by omega) ?_); first | assumption | exact mup_s _ _ _) (by omega) ?_
    try refine p_top (fup_s _ _ _) ?_
    refine p_min (pc := 46) C km_X4_298 dX4_fillLosses_46 (Nat.le_of_ble_eq_true rfl) ?_
    refine p_iast (pc := 49) C dX4_fillLosses_49 (by first | exact ha | exact hc) (by (repeat refine mg_n (by omega) ?_); first | assumption | exact mup_s _ _ _) (by omega) ?_
    try refine p_mem (mup_mup _ _ _ _) ?_
    refine p_iload (pc := 50) C dX4_fillLosses_50 rfl ?_
    refine p_aload_n (pc := 52) C dX4_fillLosses_52 rfl ?_
    refine p_iload (pc := 53) C dX4_fillLosses_53 rfl ?_
    refine p_iald (pc := 55) C dX4_fillLosses_55 (by first | exact ha | exact hc) (by (repeat refine mg_n (by omega) ?_); first | assumption | exact mup_s _ _ _) (by omega) ?_
    try refine p_top (fup_s _ _ _) ?_
    refine p_isub (pc := 56) C dX4_fillLosses_56 ⟨by omega, by omega⟩ ?_
    refine p_istore (pc := 57) (ls' := [(4, _), (5, _), (0, _), (1, _), (2, _), (3, _)]) C dX4_fillLosses_57 (by decide) rfl ?_
    refine p_iincC (pc := 59) (w := 1) (ls' := [(5, _), (4, _), (0, _), (1, _), (2, _), (3, _)]) C dX4_fillLosses_59 (by decide) rfl (by decide) (by decide) rfl ?_
    refine p_goto (pc := 62) (tgt := 25) C dX4_fillLosses_62 (by decide) ?_
    refine p_iload (pc := 25) C dX4_fillLosses_25 rfl ?_
    refine p_iconst (pc := 27) C dX4_fillLosses_27 (by decide) ?_
    refine p_icmp_ge (pc := 28) (tgt := 65) C dX4_fillLosses_28 (by decide) (fun h => absurd h (by decide)) (fun c_28 => ?_)
    refine p_iload (pc := 31) C dX4_fillLosses_31 rfl ?_
    refine p_iload_n (pc := 33) C dX4_fillLosses_33 rfl ?_
    refine p_icmp_eq (pc := 34) (tgt := 59) C dX4_fillLosses_34 (by decide) (fun h => absurd h (by decide)) (fun c_34 => ?_)
    refine p_aload_n (pc := 37) C dX4_fillLosses_37 rfl ?_
    refine p_iload (pc := 38) C dX4_fillLosses_38 rfl ?_
    refine p_iload (pc := 40) C dX4_fillLosses_40 rfl ?_
    refine p_aload_n (pc := 42) C dX4_fillLosses_42 rfl ?_
    refine p_iload (pc := 43) C dX4_fillLosses_43 rfl ?_
    refine p_iald (pc := 45) C dX4_fillLosses_45 (by first | exact ha | exact hc) (by (repeat refine mg_n (by omega) ?_); first | assumption | exact mup_s _ _ _) (by omega) ?_
    try refine p_top (fup_s _ _ _) ?_
    refine p_min (pc := 46) C km_X4_298 dX4_fillLosses_46 (Nat.le_of_ble_eq_true rfl) ?_
    refine p_iast (pc := 49) C dX4_fillLosses_49 (by first | exact ha | exact hc) (by (repeat refine mg_n (by omega) ?_); first | assumption | exact mup_s _ _ _) (by omega) ?_
    try refine p_mem (mup_mup _ _ _ _) ?_
    refine p_iload (pc := 50) C dX4_fillLosses_50 rfl ?_
    refine p_aload_n (pc := 52) C dX4_fillLosses_52 rfl ?_
    refine p_iload (pc := 53) C dX4_fillLosses_53 rfl ?_
    refine p_iald (pc := 55) C dX4_fillLosses_55 (by first | exact ha | exact hc) (by (repeat refine mg_n (by omega) ?_); first | assumption | exact mup_s _ _ _) (by omega) ?_
    try refine p_top (fup_s _ _ _) ?_
    refine p_isub (pc := 56) C dX4_fillLosses_56 ⟨by omega, by omega⟩ ?_
    refine p_istore (pc := 57) (ls' := [(4, _), (5, _), (0, _), (1, _), (2, _), (3, _)]) C dX4_fillLosses_57 (by decide) rfl ?_
    refine p_iincC (pc := 59) (w := 2) (ls' := [(5, _), (4, _), (0, _), (1, _), (2, _), (3, _)]) C dX4_fillLosses_59 (by decide) rfl (by decide) (by decide) rfl ?_
    refine p_goto (pc := 62) (tgt := 25) C dX4_fillLosses_62 (by decide) ?_
    refine p_iload (pc := 25) C dX4_fillLosses_25 rfl ?_
    refine p_iconst (pc := 27) C dX4_fillLosses_27 (by decide) ?_
    refine p_icmp_ge (pc := 28) (tgt := 65) C dX4_fillLosses_28 (by decide) (fun h => absurd h (by decide)) (fun c_28 => ?_)
    refine p_iload (pc := 31) C dX4_fillLosses_31 rfl ?_
    refine p_iload_n (pc := 33) C dX4_fillLosses_33 rfl ?_
    refine p_icmp_eq (pc := 34) (tgt := 59) C dX4_fillLosses_34 (by decide) (fun h => absurd h (by decide)) (fun c_34 => ?_)
    refine p_aload_n (pc := 37) C dX4_fillLosses_37 rfl ?_
    refine p_iload (pc := 38) C dX4_fillLosses_38 rfl ?_
    refine p_iload (pc := 40) C dX4_fillLosses_40 rfl ?_
    refine p_aload_n (pc := 42) C dX4_fillLosses_42 rfl ?_
    refine p_iload (pc := 43) C dX4_fillLosses_43 rfl ?_
    refine p_iald (pc := 45) C dX4_fillLosses_45 (by first | exact ha | exact hc) (by (repeat refine mg_n (by omega) ?_); first | assumption | exact mup_s _ _ _) (by omega) ?_
    try refine p_top (fup_s _ _ _) ?_
    refine p_min (pc := 46) C km_X4_298 dX4_fillLosses_46 (Nat.le_of_ble_eq_true rfl) ?_
    refine p_iast (pc := 49) C dX4_fillLosses_49 (by first | exact ha | exact hc) (by (repeat refine mg_n (by omega) ?_); first | assumption | exact mup_s _ _ _) (by omega) ?_
    try refine p_mem (mup_mup _ _ _ _) ?_
    refine p_iload (pc := 50) C dX4_fillLosses_50 rfl ?_
    refine p_aload_n (pc := 52) C dX4_fillLosses_52 rfl ?_
    refine p_iload (pc := 53) C dX4_fillLosses_53 rfl ?_
    refine p_iald (pc := 55) C dX4_fillLosses_55 (by first | exact ha | exact hc) (by (repeat refine mg_n (by omega) ?_); first | assumption | exact mup_s _ _ _) (by omega) ?_
    try refine p_top (fup_s _ _ _) ?_
    refine p_isub (pc := 56) C dX4_fillLosses_56 ⟨by omega, by omega⟩ ?_
    refine p_istore (pc := 57) (ls' := [(4, _), (5, _), (0, _), (1, _), (2, _), (3, _)]) C dX4_fillLosses_57 (by decide) rfl ?_
    refine p_iincC (pc := 59) (w := 3) (ls' := [(5, _), (4, _), (0, _), (1, _), (2, _), (3, _)]) C dX4_fillLosses_59 (by decide) rfl (by decide) (by decide) rfl ?_
    refine p_goto (pc := 62) (tgt := 25) C dX4_fillLosses_62 (by decide) ?_
    refine p_iload (pc := 25) C dX4_fillLosses_25 rfl ?_
    refine p_iconst (pc := 27) C dX4_fillLosses_27 (by decide) ?_
    refine p_icmp_ge (pc := 28) (tgt := 65) C dX4_fillLosses_28 (by decide) (fun h => absurd h (by decide)) (fun c_28 => ?_)
    refine p_iload (pc := 31) C dX4_fillLosses_31 rfl ?_
    refine p_iload_n (pc := 33) C dX4_fillLosses_33 rfl ?_
    refine p_icmp_eq (pc := 34) (tgt := 59) C dX4_fillLosses_34 (by decide) (fun c_34 => ?_) (fun h => absurd h (by decide))
    refine p_iincC (pc := 59) (w := 4) (ls' := [(5, _), (4, _), (0, _), (1, _), (2, _), (3, _)]) C dX4_fillLosses_59 (by decide) rfl (by decide) (by decide) rfl ?_
    refine p_goto (pc := 62) (tgt := 25) C dX4_fillLosses_62 (by decide) ?_
    refine p_iload (pc := 25) C dX4_fillLosses_25 rfl ?_
    refine p_iconst (pc := 27) C dX4_fillLosses_27 (by decide) ?_
    refine p_icmp_ge (pc := 28) (tgt := 65) C dX4_fillLosses_28 (by decide) (fun c_28 => ?_) (fun h => absurd h (by decide))
    refine p_vret (pc := 65) C dX4_fillLosses_65 ?_
    refine ⟨rfl, _, rfl, ?_⟩
    intro j j0 j1
    rcases (show j = 0 ∨ j = 1 ∨ j = 2 ∨ j = 3 by omega) with rfl | rfl | rfl | rfl
    all_goals simp (disch := omega) only [fup_s, fup_n, los, cum, cl0, if_pos, if_neg, ne_eq, Int.reduceEq, not_false_eq_true, not_true_eq_false, and_true, and_false, if_true, if_false, Int.reduceLT, true_and]
    all_goals omega
end
section
abbrev pV (P : (Int → ME) → Prop) : Option PV → (Int → ME) → Prop := fun r μ' => r = none ∧ P μ'
abbrev pI (P : Int → (Int → ME) → Prop) : Option PV → (Int → ME) → Prop := fun r μ' => ∃ z : Int, r = some (vI z) ∧ P z μ'
section PMCONV2
variable {K : KX} {X : CX} {nL d : Nat} {Q : State → Prop} {cc : ByteArray} {own : String} {ret : Option FieldType} {pc : Nat} {ls : List (Nat × PV)} {st : List PV} {μ : Int → ME}
theorem p_callVV (C : okX K X cc own nL (d + 1) ret) {idx n maxL : Nat} {y : MethodName} {bytes : ByteArray} {retc : Option FieldType} {P : (Int → ME) → Prop} {av rest : List PV} {a : Int} {ci : Nat} {fs : List PV} {q : vw_C}  (L : LnkV own idx y bytes maxL retc n) (dg : decode cc pc = .ok (.invokevirtual idx, 3)) (hM : Ct K d y bytes maxL retc (vR a :: av) μ (pV P)) (ha : IR a) (hm : μ a = mO ci fs) (hc : classes[ci]? = some q) (hq : q.1 = y.cls) (hn : av.length = n) (hst : st = av.reverse ++ vR a :: rest) (hsz : (rest.map fun v => if isL v = true then 2 else 1).sum ≤ 8)
    (kk : ∀ μ' : Int → ME, P μ' → PW K X nL Q (pc + 3) ls rest μ') : PW K X nL Q pc ls st μ :=
  p_callV C L dg hM ha hm hc hq hn hst hsz (fun r μ' h => by obtain ⟨rfl, h⟩ := h; exact kk μ' h)
theorem p_callVI (C : okX K X cc own nL (d + 1) ret) {idx n maxL : Nat} {y : MethodName} {bytes : ByteArray} {retc : Option FieldType} {P : Int → (Int → ME) → Prop} {av rest : List PV} {a : Int} {ci : Nat} {fs : List PV} {q : vw_C}  (L : LnkV own idx y bytes maxL retc n) (dg : decode cc pc = .ok (.invokevirtual idx, 3)) (hM : Ct K d y bytes maxL retc (vR a :: av) μ (pI P)) (ha : IR a) (hm : μ a = mO ci fs) (hc : classes[ci]? = some q) (hq : q.1 = y.cls) (hn : av.length = n) (hst : st = av.reverse ++ vR a :: rest) (hsz : (rest.map fun v => if isL v = true then 2 else 1).sum ≤ 8)
    (kk : ∀ (z : Int) (μ' : Int → ME), P z μ' → PW K X nL Q (pc + 3) ls (vI z :: rest) μ') : PW K X nL Q pc ls st μ :=
  p_callV C L dg hM ha hm hc hq hn hst hsz (fun r μ' h => by obtain ⟨z, rfl, h⟩ := h; exact kk z μ' h)
theorem p_callSV (C : okX K X cc own nL (d + 1) ret) {idx n maxL : Nat} {y : MethodName} {bytes : ByteArray} {retc : Option FieldType} {P : (Int → ME) → Prop} {av rest : List PV}  (L : LnkS own idx y bytes maxL retc n) (dg : decode cc pc = .ok (.invokestatic idx, 3)) (hM : Ct K d y bytes maxL retc av μ (pV P)) (hn : av.length = n) (hst : st = av.reverse ++ rest) (hsz : (rest.map fun v => if isL v = true then 2 else 1).sum ≤ 8)
    (kk : ∀ μ' : Int → ME, P μ' → PW K X nL Q (pc + 3) ls rest μ') : PW K X nL Q pc ls st μ :=
  p_callS C L dg hM hn hst hsz (fun r μ' h => by obtain ⟨rfl, h⟩ := h; exact kk μ' h)
theorem p_callSI (C : okX K X cc own nL (d + 1) ret) {idx n maxL : Nat} {y : MethodName} {bytes : ByteArray} {retc : Option FieldType} {P : Int → (Int → ME) → Prop} {av rest : List PV}  (L : LnkS own idx y bytes maxL retc n) (dg : decode cc pc = .ok (.invokestatic idx, 3)) (hM : Ct K d y bytes maxL retc av μ (pI P)) (hn : av.length = n) (hst : st = av.reverse ++ rest) (hsz : (rest.map fun v => if isL v = true then 2 else 1).sum ≤ 8)
    (kk : ∀ (z : Int) (μ' : Int → ME), P z μ' → PW K X nL Q (pc + 3) ls (vI z :: rest) μ') : PW K X nL Q pc ls st μ :=
  p_callS C L dg hM hn hst hsz (fun r μ' h => by obtain ⟨z, rfl, h⟩ := h; exact kk z μ' h)
theorem p_callNV (C : okX K X cc own nL (d + 1) ret) {idx n maxL : Nat} {y : MethodName} {host : String} {bytes : ByteArray} {retc : Option FieldType} {P : (Int → ME) → Prop} {av rest : List PV}  (L : LnkN own idx y host bytes maxL retc n) (dg : decode cc pc = .ok (.invokestatic idx, 3)) (hM : Ct K d y bytes maxL retc av μ (pV P)) (hn : av.length = n) (hst : st = av.reverse ++ rest) (hsz : (rest.map fun v => if isL v = true then 2 else 1).sum ≤ 8)
    (kk : ∀ μ' : Int → ME, P μ' → PW K X nL Q (pc + 3) ls rest μ') : PW K X nL Q pc ls st μ :=
  p_callN C L dg hM hn hst hsz (fun r μ' h => by obtain ⟨rfl, h⟩ := h; exact kk μ' h)
theorem p_callNI (C : okX K X cc own nL (d + 1) ret) {idx n maxL : Nat} {y : MethodName} {host : String} {bytes : ByteArray} {retc : Option FieldType} {P : Int → (Int → ME) → Prop} {av rest : List PV}  (L : LnkN own idx y host bytes maxL retc n) (dg : decode cc pc = .ok (.invokestatic idx, 3)) (hM : Ct K d y bytes maxL retc av μ (pI P)) (hn : av.length = n) (hst : st = av.reverse ++ rest) (hsz : (rest.map fun v => if isL v = true then 2 else 1).sum ≤ 8)
    (kk : ∀ (z : Int) (μ' : Int → ME), P z μ' → PW K X nL Q (pc + 3) ls (vI z :: rest) μ') : PW K X nL Q pc ls st μ :=
  p_callN C L dg hM hn hst hsz (fun r μ' h => by obtain ⟨z, rfl, h⟩ := h; exact kk z μ' h)
end PMCONV2
theorem wor_c {f g : Int → Int} (h : ∀ j, 0 ≤ j → j < 4 → f j = g j) : wor f = wor g := by
  unfold wor
  rw [h 0 (by omega) (by omega), h 1 (by omega) (by omega), h 2 (by omega) (by omega), h 3 (by omega) (by omega)]
theorem los_r {f : Int → Int} {nm r j m : Int} (hb : bd4 f m) (hn : 0 ≤ nm ∧ nm < 4) (h0 : 0 ≤ j) (h1 : j < 4) : 0 ≤ los f nm r j ∧ los f nm r j ≤ f j := by
  have a := hb.at h0 h1
  have b := hb.at hn.1 hn.2
  unfold los cl0
  split
  · rename_i e; subst e; split
    · omega
    · split <;> omega
  · split
    · omega
    · split <;> omega
theorem los_b {f G : Int → Int} {nm r m : Int} (hb : bd4 f m) (hn : 0 ≤ nm ∧ nm < 4) (hG : ∀ j, 0 ≤ j → j < 4 → G j = los f nm r j) : bd4 G m := by
  have key : ∀ j, 0 ≤ j → j < 4 → 0 ≤ G j ∧ G j ≤ m := fun j h0 h1 => by
    have := los_r (r := r) hb hn h0 h1
    have := hb.at h0 h1
    rw [hG j h0 h1]; omega
  exact ⟨key 0 (by omega) (by omega), key 1 (by omega) (by omega), key 2 (by omega) (by omega), key 3 (by omega) (by omega)⟩
theorem bd4.le {f : Int → Int} {m m' : Int} (h : bd4 f m) (hm : m ≤ m') : bd4 f m' := by
  unfold bd4 at *; omega

set_option maxHeartbeats 4000000 in
set_option maxRecDepth 100000 in
theorem k_X4_worthLostFrom {K : KX} {d : Nat} {μ : Int → ME} {p n : Int} {g : Int → Int} {a c kd nm sg pt : Int} (ha : IR a) (h1 : μ a = oS kd nm sg pt c) {f : Int → Int} (hc : IR c) (h2 : μ c = mA 4 f) {np ns day nr tr fl : Int} (h0 : μ 0 = oY np ns day nr tr fl) {rg : Int → Int} (hr : μ 1 = mA 6 rg) (hnp : np ≤ 6) (h9 : μ 9 = mA 4 g) (hac : a ≠ c) (ha9 : a ≠ 9) (hc9 : c ≠ 9) (hp : 0 ≤ p ∧ p < np) (hn : 0 ≤ n ∧ n ≤ 30) (hsg : 0 ≤ sg ∧ sg ≤ 9) (hnm : 0 ≤ nm ∧ nm < 4) (hb : bd4 f 9) : Ct K (d + 3) yX4_worthLostFrom cX4_worthLostFrom 4 (some .int) [vR 0, vR a, vI p, vI n] μ (pI (fun z μ' => z = wor (los f nm (rdN rg np (brg kd sg) p n.toNat)) ∧ ∃ G : Int → Int, μ' = mup μ 9 (mA 4 G))) := by
  refine Ct.of (by decide) (Nat.le_of_ble_eq_true rfl) (fun X C => ?_)
  refine p_aload_n (pc := 0) C dX4_worthLostFrom_0 rfl ?_
  refine p_get (pc := 1) C fl_X4_121 dX4_worthLostFrom_1 (by first | exact ha | exact hc | exact ⟨by omega, by omega⟩) (by (repeat refine mg_n (by omega) ?_); first | assumption | exact mup_s _ _ _) (by rfl) ?_
  refine p_aload_n (pc := 4) C dX4_worthLostFrom_4 rfl ?_
  refine p_get (pc := 5) C fl_X4_95 dX4_worthLostFrom_5 (by first | exact ha | exact hc | exact ⟨by omega, by omega⟩) (by (repeat refine mg_n (by omega) ?_); first | assumption | exact mup_s _ _ _) (by rfl) ?_
  refine p_aload_n (pc := 8) C dX4_worthLostFrom_8 rfl ?_
  refine p_aload_n (pc := 9) C dX4_worthLostFrom_9 rfl ?_
  refine p_callVF (pc := 10) C ln_X4_101 dX4_worthLostFrom_10 (k_X1_bearing ha h1 (by omega)) (by first | exact ha | exact hc | exact ⟨by omega, by omega⟩) (by (repeat refine mg_n (by omega) ?_); first | assumption | exact mup_s _ _ _) rfl rfl rfl rfl (Nat.le_of_ble_eq_true rfl) ?_
  refine p_iload_n (pc := 13) C dX4_worthLostFrom_13 rfl ?_
  refine p_iload_n (pc := 14) C dX4_worthLostFrom_14 rfl ?_
  refine p_callVF (pc := 15) C ln_X4_165 dX4_worthLostFrom_15 (k_X4_roughDays h0 hr hnp (by omega) hp) (by first | exact ha | exact hc | exact ⟨by omega, by omega⟩) (by (repeat refine mg_n (by omega) ?_); first | assumption | exact mup_s _ _ _) rfl rfl rfl rfl (Nat.le_of_ble_eq_true rfl) ?_
  refine p_aload_n (pc := 18) C dX4_worthLostFrom_18 rfl ?_
  refine p_get (pc := 19) C fl_X4_38 dX4_worthLostFrom_19 (by first | exact ha | exact hc | exact ⟨by omega, by omega⟩) (by (repeat refine mg_n (by omega) ?_); first | assumption | exact mup_s _ _ _) (by rfl) ?_
  refine p_callSV (pc := 22) C ln_X4_191 dX4_worthLostFrom_22 (k_X4_fillLosses hc h2 ⟨by omega, by omega⟩ h9 hc9 hnm (hb.le (by omega)) (by have := rdN_r rg np (brg kd sg) n.toNat p; omega)) rfl rfl (Nat.le_of_ble_eq_true rfl) (fun μ' hpost => ?_)
  obtain ⟨G, rfl, hG⟩ := hpost
  refine p_aload_n (pc := 25) C dX4_worthLostFrom_25 rfl ?_
  refine p_get (pc := 26) C fl_X4_38 dX4_worthLostFrom_26 (by first | exact ha | exact hc | exact ⟨by omega, by omega⟩) (by (repeat refine mg_n (by omega) ?_); first | assumption | exact mup_s _ _ _) (by rfl) ?_
  refine p_callSF (pc := 29) C ln_X4_294 dX4_worthLostFrom_29 (k_X4_worthOfAll ⟨by omega, by omega⟩ (mup_s _ _ _) ((los_b hb hnm hG).le (by omega))) rfl rfl (Nat.le_of_ble_eq_true rfl) ?_
  refine p_iret (pc := 32) C dX4_worthLostFrom_32 ?_
  exact ⟨_, rfl, wor_c hG, G, rfl⟩

/-- the ships that have met their name, of the first t -/
def metN (nm : Int → Int) (ca : Int → Int → Int) : Nat → Int
  | 0 => 0
  | t + 1 => if ca (t : Int) (nm (t : Int)) = 0 then iOr (metN nm ca t) (iShl 1 (t : Int)) else metN nm ca t

set_option maxHeartbeats 4000000 in
set_option maxRecDepth 100000 in
theorem k_X4_metOf {K : KX} {d : Nat} {μ : Int → ME} {m b : Int} {kd nm sg pt : Int → Int} {ca : Int → Int → Int} {np ns day nr tr fl : Int} (h0 : μ 0 = oY np ns day nr tr fl) (hm0 : IR m) (hm : μ m = mR 0 5 (fun k => some (b + 4 * k))) (hb : 0 ≤ b ∧ b + 20 < 60) (hns : 0 ≤ ns ∧ ns ≤ 5) (hs : ∀ k, 0 ≤ k → k < ns → μ (b + 4 * k) = oS (kd k) (nm k) (sg k) (pt k) (b + 1 + 4 * k) ∧ μ (b + 1 + 4 * k) = mA 4 (ca k) ∧ 0 ≤ nm k ∧ nm k < 4) : Ct K (d + 1) yX4_metOf cX4_metOf 4 (some .int) [vR 0, vR m] μ (pF (vI (metN nm ca ns.toNat)) μ) := by
  refine Ct.of (by decide) (Nat.le_of_ble_eq_true rfl) (fun X C => ?_)
  have L : ∀ (t : Nat) (i w : Int), 0 ≤ i → ns - i = (t : Int) → w = metN nm ca i.toNat → PW K X 4 (QM K X (pF (vI (metN nm ca ns.toNat)) μ)) 4 [(3, vI i), (2, vI w), (0, vR 0), (1, vR m)] [] μ := by
    intro t
    induction t with
    | zero =>
      intro i w h1 h2 h3
      have e : i = ns := by omega
      subst e; subst h3
      refine p_iload_n (pc := 4) C dX4_metOf_4 rfl ?_
      refine p_aload_n (pc := 5) C dX4_metOf_5 rfl ?_
      refine p_get (pc := 6) C fl_X4_86 dX4_metOf_6 ⟨by omega, by omega⟩ (by (repeat refine mg_n (by omega) ?_); first | assumption | exact mup_s _ _ _) (by rfl) ?_
      refine p_icmp_ge (pc := 9) (tgt := 33) C dX4_metOf_9 (by decide) (fun c_9 => ?_) (fun h => by exfalso; omega)
      refine p_iload_n (pc := 33) C dX4_metOf_33 rfl ?_
      refine p_iret (pc := 34) C dX4_metOf_34 ?_
      exact ⟨rfl, rfl⟩
    | succ t ih =>
      intro i w h1 h2 h3
      obtain ⟨s1, s2, s3, s4⟩ := hs i h1 (by omega)
      have e1 : (i + 1).toNat = i.toNat + 1 := by omega
      have e2 : ((i.toNat : Nat) : Int) = i := by omega
      refine p_iload_n (pc := 4) C dX4_metOf_4 rfl ?_
      refine p_aload_n (pc := 5) C dX4_metOf_5 rfl ?_
      refine p_get (pc := 6) C fl_X4_86 dX4_metOf_6 (by first | exact hm0 | exact ⟨by omega, by omega⟩) (by (repeat refine mg_n (by omega) ?_); first | assumption | exact mup_s _ _ _) (by rfl) ?_
      refine p_icmp_ge (pc := 9) (tgt := 33) C dX4_metOf_9 (by decide) (fun h => by exfalso; omega) (fun c_9 => ?_)
      refine p_aload_n (pc := 12) C dX4_metOf_12 rfl ?_
      refine p_iload_n (pc := 13) C dX4_metOf_13 rfl ?_
      refine p_aald (pc := 14) C dX4_metOf_14 (by first | exact hm0 | exact ⟨by omega, by omega⟩) (by (repeat refine mg_n (by omega) ?_); first | assumption | exact mup_s _ _ _) (by decide) (by omega) (by rfl) ?_
      refine p_callVF (pc := 15) C ln_X4_108 dX4_metOf_15 (k_X1_isMet ⟨by omega, by omega⟩ s1 ⟨by omega, by omega⟩ s2 ⟨s3, s4⟩) (by first | exact hm0 | exact ⟨by omega, by omega⟩) (by (repeat refine mg_n (by omega) ?_); first | assumption | exact mup_s _ _ _) rfl rfl rfl rfl (Nat.le_of_ble_eq_true rfl) ?_
      refine p_ifeq_b (pc := 18) (tgt := 27) C dX4_metOf_18 (by decide) (fun c_18 => ?_) (fun c_18 => ?_)
      · refine p_iinc (pc := 27) (ls' := [(3, _), (2, _), (0, _), (1, _)]) C dX4_metOf_27 (by decide) rfl ⟨by omega, by omega⟩ rfl ?_
        refine p_goto (pc := 30) (tgt := 4) C dX4_metOf_30 (by decide) ?_
        first
          | exact ih (i + 1) _ (by omega) (by omega) (by rw [e1, metN, e2, if_pos c_18, h3])
          | exact ih (i + 1) _ (by omega) (by omega) (by rw [e1, metN, e2, if_neg c_18, h3])
      · refine p_iload_n (pc := 21) C dX4_metOf_21 rfl ?_
        refine p_iconst (pc := 22) C dX4_metOf_22 (by decide) ?_
        refine p_iload_n (pc := 23) C dX4_metOf_23 rfl ?_
        refine p_ishl (pc := 24) C dX4_metOf_24 ?_
        refine p_ior (pc := 25) C dX4_metOf_25 ?_
        refine p_istore_n (pc := 26) (ls' := [(2, _), (3, _), (0, _), (1, _)]) C dX4_metOf_26 (by decide) rfl ?_
        refine p_iinc (pc := 27) (ls' := [(3, _), (2, _), (0, _), (1, _)]) C dX4_metOf_27 (by decide) rfl ⟨by omega, by omega⟩ rfl ?_
        refine p_goto (pc := 30) (tgt := 4) C dX4_metOf_30 (by decide) ?_
        first
          | exact ih (i + 1) _ (by omega) (by omega) (by rw [e1, metN, e2, if_pos c_18, h3])
          | exact ih (i + 1) _ (by omega) (by omega) (by rw [e1, metN, e2, if_neg c_18, h3])
  refine p_iconst (pc := 0) C dX4_metOf_0 (by decide) ?_
  refine p_istore_n (pc := 1) (ls' := [(2, _), (0, _), (1, _)]) C dX4_metOf_1 (by decide) rfl ?_
  refine p_iconst (pc := 2) C dX4_metOf_2 (by decide) ?_
  refine p_istore_n (pc := 3) (ls' := [(3, _), (2, _), (0, _), (1, _)]) C dX4_metOf_3 (by decide) rfl ?_
  exact L ns.toNat 0 0 (by omega) (by omega) rfl

set_option maxHeartbeats 4000000 in
set_option maxRecDepth 100000 in
theorem k_X4_tellBarge {K : KX} {d : Nat} {μ : Int → ME} {a c kd nm sg pt : Int} (ha : IR a) (h1 : μ a = oS kd nm sg pt c) {np ns day nr tr fl : Int} (h0 : μ 0 = oY np ns day nr tr fl) (ha0 : a ≠ 0) : Ct K (d + 1) yX4_tellBarge cX4_tellBarge 2 (some .int) [vR 0, vR a] μ (pF (vI sg) (mup μ 0 (oY np ns day nr (iwr (iwr (31 * tr) + 1)) fl))) := by
  refine Ct.of (by decide) (Nat.le_of_ble_eq_true rfl) (fun X C => ?_)
  refine p_aload_n (pc := 0) C dX4_tellBarge_0 rfl ?_
  refine p_iconst (pc := 1) C dX4_tellBarge_1 (by decide) ?_
  refine p_callVU (pc := 2) C ln_X4_332 dX4_tellBarge_2 (k_X4_leave (by (repeat refine mg_n (by omega) ?_); first | assumption | exact mup_s _ _ _)) (by first | exact ha | exact ⟨by omega, by omega⟩) (by (repeat refine mg_n (by omega) ?_); first | assumption | exact mup_s _ _ _) rfl rfl rfl rfl (Nat.le_of_ble_eq_true rfl) ?_
  refine p_aload_n (pc := 5) C dX4_tellBarge_5 rfl ?_
  refine p_get (pc := 6) C fl_X4_98 dX4_tellBarge_6 (by first | exact ha | exact ⟨by omega, by omega⟩) (by (repeat refine mg_n (by omega) ?_); first | assumption | exact mup_s _ _ _) (by rfl) ?_
  refine p_iret (pc := 9) C dX4_tellBarge_9 ?_
  exact ⟨by first | rfl | (rw [if_pos (by omega)]) | (rw [if_neg (by omega)]) | (congr 2; omega), rfl⟩

set_option maxHeartbeats 4000000 in
set_option maxRecDepth 100000 in
theorem k_X4_tellCutter {K : KX} {d : Nat} {μ : Int → ME} {a c kd nm sg pt : Int} (ha : IR a) (h1 : μ a = oS kd nm sg pt c) {np ns day nr tr fl : Int} (h0 : μ 0 = oY np ns day nr tr fl) (ha0 : a ≠ 0) (hsg : 0 ≤ sg ∧ sg ≤ 9) : Ct K (d + 2) yX4_tellCutter cX4_tellCutter 2 (some .int) [vR 0, vR a] μ (pF (vI (sg + 100)) (mup μ 0 (oY np ns day nr (iwr (iwr (31 * iwr (iwr (31 * tr) + 2)) + 1)) fl))) := by
  refine Ct.of (by decide) (Nat.le_of_ble_eq_true rfl) (fun X C => ?_)
  refine p_aload_n (pc := 0) C dX4_tellCutter_0 rfl ?_
  refine p_iconst (pc := 1) C dX4_tellCutter_1 (by decide) ?_
  refine p_callVU (pc := 2) C ln_X4_332 dX4_tellCutter_2 (k_X4_leave (by (repeat refine mg_n (by omega) ?_); first | assumption | exact mup_s _ _ _)) (by first | exact ha | exact ⟨by omega, by omega⟩) (by (repeat refine mg_n (by omega) ?_); first | assumption | exact mup_s _ _ _) rfl rfl rfl rfl (Nat.le_of_ble_eq_true rfl) ?_
  refine p_aload_n (pc := 5) C dX4_tellCutter_5 rfl ?_
  refine p_aload_n (pc := 6) C dX4_tellCutter_6 rfl ?_
  refine p_callVF (pc := 7) C ln_X4_246 dX4_tellCutter_7 (k_X4_tellBarge ha (by refine mg_n ha0 ?_; exact h1) (mup_s _ _ _) ha0) (by first | exact ha | exact ⟨by omega, by omega⟩) (by (repeat refine mg_n (by omega) ?_); first | assumption | exact mup_s _ _ _) rfl rfl rfl rfl (Nat.le_of_ble_eq_true rfl) ?_
  refine p_mem (mup_mup _ _ _ _) ?_
  refine p_bipush (pc := 10) C dX4_tellCutter_10 (by decide) ?_
  refine p_iadd (pc := 12) C dX4_tellCutter_12 ⟨by omega, by omega⟩ ?_
  refine p_iret (pc := 13) C dX4_tellCutter_13 ?_
  exact ⟨by first | rfl | (rw [if_pos (by omega)]) | (rw [if_neg (by omega)]) | (congr 2; omega), rfl⟩

set_option maxHeartbeats 4000000 in
set_option maxRecDepth 100000 in
theorem k_X4_tellSloop {K : KX} {d : Nat} {μ : Int → ME} {a c kd nm sg pt : Int} (ha : IR a) (h1 : μ a = oS kd nm sg pt c) {np ns day nr tr fl : Int} (h0 : μ 0 = oY np ns day nr tr fl) (ha0 : a ≠ 0) (hsg : 0 ≤ sg ∧ sg ≤ 9) : Ct K (d + 3) yX4_tellSloop cX4_tellSloop 3 (some .int) [vR 0, vR a] μ (pF (vI (2 * sg + 100)) (mup μ 0 (oY np ns day nr (iwr (iwr (31 * iwr (iwr (31 * iwr (iwr (31 * iwr (iwr (31 * tr) + 3)) + 2)) + 1)) + 1)) fl))) := by
  refine Ct.of (by decide) (Nat.le_of_ble_eq_true rfl) (fun X C => ?_)
  refine p_aload_n (pc := 0) C dX4_tellSloop_0 rfl ?_
  refine p_iconst (pc := 1) C dX4_tellSloop_1 (by decide) ?_
  refine p_callVU (pc := 2) C ln_X4_332 dX4_tellSloop_2 (k_X4_leave (by (repeat refine mg_n (by omega) ?_); first | assumption | exact mup_s _ _ _)) (by first | exact ha | exact ⟨by omega, by omega⟩) (by (repeat refine mg_n (by omega) ?_); first | assumption | exact mup_s _ _ _) rfl rfl rfl rfl (Nat.le_of_ble_eq_true rfl) ?_
  refine p_aload_n (pc := 5) C dX4_tellSloop_5 rfl ?_
  refine p_aload_n (pc := 6) C dX4_tellSloop_6 rfl ?_
  refine p_callVF (pc := 7) C ln_X4_243 dX4_tellSloop_7 (k_X4_tellCutter ha (by refine mg_n ha0 ?_; exact h1) (mup_s _ _ _) ha0 hsg) (by first | exact ha | exact ⟨by omega, by omega⟩) (by (repeat refine mg_n (by omega) ?_); first | assumption | exact mup_s _ _ _) rfl rfl rfl rfl (Nat.le_of_ble_eq_true rfl) ?_
  refine p_mem (mup_mup _ _ _ _) ?_
  refine p_istore_n (pc := 10) (ls' := [(2, _), (0, _), (1, _)]) C dX4_tellSloop_10 (by decide) rfl ?_
  refine p_iload_n (pc := 11) C dX4_tellSloop_11 rfl ?_
  refine p_aload_n (pc := 12) C dX4_tellSloop_12 rfl ?_
  refine p_aload_n (pc := 13) C dX4_tellSloop_13 rfl ?_
  refine p_callVF (pc := 14) C ln_X4_246 dX4_tellSloop_14 (k_X4_tellBarge ha (by refine mg_n ha0 ?_; exact h1) (mup_s _ _ _) ha0) (by first | exact ha | exact ⟨by omega, by omega⟩) (by (repeat refine mg_n (by omega) ?_); first | assumption | exact mup_s _ _ _) rfl rfl rfl rfl (Nat.le_of_ble_eq_true rfl) ?_
  refine p_mem (mup_mup _ _ _ _) ?_
  refine p_iadd (pc := 17) C dX4_tellSloop_17 ⟨by omega, by omega⟩ ?_
  refine p_iret (pc := 18) C dX4_tellSloop_18 ?_
  exact ⟨sv (by omega), rfl⟩

set_option maxHeartbeats 4000000 in
set_option maxRecDepth 100000 in
theorem k_X4_hailLent {K : KX} {d : Nat} {μ : Int → ME} {a c kd nm sg pt : Int} (ha : IR a) (h1 : μ a = oS kd nm sg pt c) {np ns day nr tr fl : Int} (h0 : μ 0 = oY np ns day nr tr fl) (ha0 : a ≠ 0) : Ct K (d + 1) yX4_hailLent cX4_hailLent 2 (some .int) [vR 0, vR a] μ (pF (vI nm) (mup μ 0 (oY np ns day nr (iwr (iwr (31 * tr) + 4)) fl))) := by
  refine Ct.of (by decide) (Nat.le_of_ble_eq_true rfl) (fun X C => ?_)
  refine p_aload_n (pc := 0) C dX4_hailLent_0 rfl ?_
  refine p_iconst (pc := 1) C dX4_hailLent_1 (by decide) ?_
  refine p_callVU (pc := 2) C ln_X4_332 dX4_hailLent_2 (k_X4_leave (by (repeat refine mg_n (by omega) ?_); first | assumption | exact mup_s _ _ _)) (by first | exact ha | exact ⟨by omega, by omega⟩) (by (repeat refine mg_n (by omega) ?_); first | assumption | exact mup_s _ _ _) rfl rfl rfl rfl (Nat.le_of_ble_eq_true rfl) ?_
  refine p_aload_n (pc := 5) C dX4_hailLent_5 rfl ?_
  refine p_get (pc := 6) C fl_X4_95 dX4_hailLent_6 (by first | exact ha | exact ⟨by omega, by omega⟩) (by (repeat refine mg_n (by omega) ?_); first | assumption | exact mup_s _ _ _) (by rfl) ?_
  refine p_iret (pc := 9) C dX4_hailLent_9 ?_
  exact ⟨by first | rfl | (rw [if_pos (by omega)]) | (rw [if_neg (by omega)]) | (congr 2; omega), rfl⟩

set_option maxHeartbeats 4000000 in
set_option maxRecDepth 100000 in
theorem k_X4_hailSloop {K : KX} {d : Nat} {μ : Int → ME} {np ns day nr tr fl : Int} (h0 : μ 0 = oY np ns day nr tr fl) : Ct K (d + 1) yX4_hailSloop cX4_hailSloop 1 (some .int) [vR 0] μ (pF (vI 60) (mup μ 0 (oY np ns day nr (iwr (iwr (31 * tr) + 5)) fl))) := by
  refine Ct.of (by decide) (Nat.le_of_ble_eq_true rfl) (fun X C => ?_)
  refine p_aload_n (pc := 0) C dX4_hailSloop_0 rfl ?_
  refine p_iconst (pc := 1) C dX4_hailSloop_1 (by decide) ?_
  refine p_callVU (pc := 2) C ln_X4_332 dX4_hailSloop_2 (k_X4_leave (by (repeat refine mg_n (by omega) ?_); first | assumption | exact mup_s _ _ _)) ⟨by omega, by omega⟩ (by (repeat refine mg_n (by omega) ?_); first | assumption | exact mup_s _ _ _) rfl rfl rfl rfl (Nat.le_of_ble_eq_true rfl) ?_
  refine p_bipush (pc := 5) C dX4_hailSloop_5 (by decide) ?_
  refine p_iret (pc := 7) C dX4_hailSloop_7 ?_
  exact ⟨by first | rfl | (rw [if_pos (by omega)]) | (rw [if_neg (by omega)]) | (congr 2; omega), rfl⟩
end
section
/-- whether readings i, i + 1, .. (t of them) are so, if reading j's ship bears br j -/
def soN (br rg rp rl : Int → Int) (i : Int) : Nat → Int
  | 0 => 1
  | t + 1 => if (if br i < rg (rp i) then 1 else 0) = rl i then soN br rg rp rl (i + 1) t else 0
def brK (k b : Int) (rs kd sg : Int → Int) : Int → Int := fun i => if rs i = k then b else brg (kd (rs i)) (sg (rs i))

set_option maxHeartbeats 4000000 in
set_option maxRecDepth 100000 in
theorem k_X4_readingsAreSo {K : KX} {d : Nat} {μ : Int → ME} {k b : Int} {np ns day nr tr fl : Int} (h0 : μ 0 = oY np ns day nr tr fl) {rg : Int → Int} (hr : μ 1 = mA 6 rg) (hnp : np ≤ 6) (hF : μ 2 = mR 0 5 (fun k => some (14 + 4 * k))) {kd nm sg pt : Int → Int} {ca : Int → Int → Int} (hS : ∀ k, 0 ≤ k → k < 5 → μ (14 + 4 * k) = oS (kd k) (nm k) (sg k) (pt k) (15 + 4 * k) ∧ μ (15 + 4 * k) = mA 4 (ca k)) {rs rp rl : Int → Int} (hrs : μ 10 = mA 8 rs) (hrp : μ 11 = mA 8 rp) (hrl : μ 12 = mA 8 rl) (hns : ns ≤ 5) (hnr : 0 ≤ nr ∧ nr ≤ 8) (hR : ∀ i, 0 ≤ i → i < nr → (0 ≤ rs i ∧ rs i < ns) ∧ (0 ≤ rp i ∧ rp i < np)) (hsg : ∀ k, 0 ≤ k → k < ns → 0 ≤ sg k ∧ sg k ≤ 9) : Ct K (d + 2) yX4_readingsAreSo cX4_readingsAreSo 6 (some .boolean) [vR 0, vI k, vI b] μ (pF (vI (if soN (brK k b rs kd sg) rg rp rl 0 nr.toNat = 1 then 1 else 0)) μ) := by
  refine Ct.of (by decide) (Nat.le_of_ble_eq_true rfl) (fun X C => ?_)
  have L : ∀ (t : Nat) (i : Int), 0 ≤ i → nr - i = (t : Int) → soN (brK k b rs kd sg) rg rp rl i t = soN (brK k b rs kd sg) rg rp rl 0 nr.toNat → PW K X 6 (QM K X (pF (vI (if soN (brK k b rs kd sg) rg rp rl 0 nr.toNat = 1 then 1 else 0)) μ)) 2 [(3, vI i), (0, vR 0), (1, vI k), (2, vI b)] [] μ := by
    intro t
    induction t with
    | zero =>
      intro i h1 h2 h3
      refine p_iload_n (pc := 2) C dX4_readingsAreSo_2 rfl ?_
      refine p_aload_n (pc := 3) C dX4_readingsAreSo_3 rfl ?_
      refine p_get (pc := 4) C fl_X4_181 dX4_readingsAreSo_4 ⟨by omega, by omega⟩ (by (repeat refine mg_n (by omega) ?_); first | assumption | exact mup_s _ _ _) (by rfl) ?_
      refine p_icmp_ge (pc := 7) (tgt := 82) C dX4_readingsAreSo_7 (by decide) (fun c_7 => ?_) (fun h => by exfalso; omega)
      refine p_iconst (pc := 82) C dX4_readingsAreSo_82 (by decide) ?_
      refine p_zret (pc := 83) C dX4_readingsAreSo_83 (by first | exact Or.inl rfl | exact Or.inr rfl | (split <;> simp)) ?_
      exact ⟨by rw [if_pos (by rw [← h3]; rfl)], rfl⟩
    | succ t ih =>
      intro i h1 h2 h3
      obtain ⟨⟨r1, r2⟩, r3, r4⟩ := hR i h1 (by omega)
      obtain ⟨s1, s2⟩ := hS (rs i) r1 (by omega)
      have s3 := hsg (rs i) r1 r2
      have e1 : brK k b rs kd sg i = (if rs i = k then b else brg (kd (rs i)) (sg (rs i))) := rfl
      rw [soN, e1] at h3
      refine p_iload_n (pc := 2) C dX4_readingsAreSo_2 rfl ?_
      refine p_aload_n (pc := 3) C dX4_readingsAreSo_3 rfl ?_
      refine p_get (pc := 4) C fl_X4_181 dX4_readingsAreSo_4 ⟨by omega, by omega⟩ (by (repeat refine mg_n (by omega) ?_); first | assumption | exact mup_s _ _ _) (by rfl) ?_
      refine p_icmp_ge (pc := 7) (tgt := 82) C dX4_readingsAreSo_7 (by decide) (fun h => by exfalso; omega) (fun c_7 => ?_)
      refine p_aload_n (pc := 10) C dX4_readingsAreSo_10 rfl ?_
      refine p_get (pc := 11) C fl_X4_41 dX4_readingsAreSo_11 ⟨by omega, by omega⟩ (by (repeat refine mg_n (by omega) ?_); first | assumption | exact mup_s _ _ _) (by rfl) ?_
      refine p_iload_n (pc := 14) C dX4_readingsAreSo_14 rfl ?_
      refine p_iald (pc := 15) C dX4_readingsAreSo_15 ⟨by omega, by omega⟩ (by (repeat refine mg_n (by omega) ?_); first | assumption | exact mup_s _ _ _) (by omega) ?_
      refine p_iload_n (pc := 16) C dX4_readingsAreSo_16 rfl ?_
      refine p_icmp_ne (pc := 17) (tgt := 24) C dX4_readingsAreSo_17 (by decide) (fun c_17 => ?_) (fun c_17 => ?_)
      · refine p_aload_n (pc := 24) C dX4_readingsAreSo_24 rfl ?_
        refine p_get (pc := 25) C fl_X4_17 dX4_readingsAreSo_25 ⟨by omega, by omega⟩ (by (repeat refine mg_n (by omega) ?_); first | assumption | exact mup_s _ _ _) (by rfl) ?_
        refine p_aload_n (pc := 28) C dX4_readingsAreSo_28 rfl ?_
        refine p_get (pc := 29) C fl_X4_41 dX4_readingsAreSo_29 ⟨by omega, by omega⟩ (by (repeat refine mg_n (by omega) ?_); first | assumption | exact mup_s _ _ _) (by rfl) ?_
        refine p_iload_n (pc := 32) C dX4_readingsAreSo_32 rfl ?_
        refine p_iald (pc := 33) C dX4_readingsAreSo_33 ⟨by omega, by omega⟩ (by (repeat refine mg_n (by omega) ?_); first | assumption | exact mup_s _ _ _) (by omega) ?_
        refine p_aald (pc := 34) C dX4_readingsAreSo_34 ⟨by omega, by omega⟩ (by (repeat refine mg_n (by omega) ?_); first | assumption | exact mup_s _ _ _) (by decide) (by omega) (by rfl) ?_
        refine p_callVF (pc := 35) C ln_X4_101 dX4_readingsAreSo_35 (k_X1_bearing ⟨by omega, by omega⟩ s1 (by omega)) ⟨by omega, by omega⟩ (by (repeat refine mg_n (by omega) ?_); first | assumption | exact mup_s _ _ _) rfl rfl rfl rfl (Nat.le_of_ble_eq_true rfl) ?_
        refine p_istore (pc := 38) (ls' := [(4, _), (3, _), (0, _), (1, _), (2, _)]) C dX4_readingsAreSo_38 (by decide) rfl ?_
        refine p_aload_n (pc := 40) C dX4_readingsAreSo_40 rfl ?_
        refine p_get (pc := 41) C fl_X4_11 dX4_readingsAreSo_41 ⟨by omega, by omega⟩ (by (repeat refine mg_n (by omega) ?_); first | assumption | exact mup_s _ _ _) (by rfl) ?_
        refine p_aload_n (pc := 44) C dX4_readingsAreSo_44 rfl ?_
        refine p_get (pc := 45) C fl_X4_44 dX4_readingsAreSo_45 ⟨by omega, by omega⟩ (by (repeat refine mg_n (by omega) ?_); first | assumption | exact mup_s _ _ _) (by rfl) ?_
        refine p_iload_n (pc := 48) C dX4_readingsAreSo_48 rfl ?_
        refine p_iald (pc := 49) C dX4_readingsAreSo_49 ⟨by omega, by omega⟩ (by (repeat refine mg_n (by omega) ?_); first | assumption | exact mup_s _ _ _) (by omega) ?_
        refine p_iald (pc := 50) C dX4_readingsAreSo_50 ⟨by omega, by omega⟩ (by (repeat refine mg_n (by omega) ?_); first | assumption | exact mup_s _ _ _) (by omega) ?_
        refine p_iload (pc := 51) C dX4_readingsAreSo_51 rfl ?_
        refine p_icmp_le (pc := 53) (tgt := 60) C dX4_readingsAreSo_53 (by decide) (fun c_53 => ?_) (fun c_53 => ?_)
        · refine p_iconst (pc := 60) C dX4_readingsAreSo_60 (by decide) ?_
          refine p_istore (pc := 61) (ls' := [(5, _), (4, _), (3, _), (0, _), (1, _), (2, _)]) C dX4_readingsAreSo_61 (by decide) rfl ?_
          refine p_iload (pc := 63) C dX4_readingsAreSo_63 rfl ?_
          refine p_aload_n (pc := 65) C dX4_readingsAreSo_65 rfl ?_
          refine p_get (pc := 66) C fl_X4_47 dX4_readingsAreSo_66 ⟨by omega, by omega⟩ (by (repeat refine mg_n (by omega) ?_); first | assumption | exact mup_s _ _ _) (by rfl) ?_
          refine p_iload_n (pc := 69) C dX4_readingsAreSo_69 rfl ?_
          refine p_iald (pc := 70) C dX4_readingsAreSo_70 ⟨by omega, by omega⟩ (by (repeat refine mg_n (by omega) ?_); first | assumption | exact mup_s _ _ _) (by omega) ?_
          refine p_icmp_eq (pc := 71) (tgt := 76) C dX4_readingsAreSo_71 (by decide) (fun c_71 => ?_) (fun c_71 => ?_)
          · refine p_iinc (pc := 76) (ls' := [(3, _), (5, _), (4, _), (0, _), (1, _), (2, _)]) C dX4_readingsAreSo_76 (by decide) rfl ⟨by omega, by omega⟩ rfl ?_
            refine p_goto (pc := 79) (tgt := 2) C dX4_readingsAreSo_79 (by decide) ?_
            refine p_pick [0, 3, 4, 5] (ls' := [(3, _), (0, _), (1, _), (2, _)]) rfl ?_
            exact ih (i + 1) (by omega) (by omega) (by
              first
                | (rw [if_pos (by omega)] at h3; exact h3)
                | (rw [if_pos (by rw [if_pos (by omega)]; omega)] at h3; exact h3)
                | (rw [if_pos (by rw [if_neg (by omega)]; omega)] at h3; exact h3))
          · refine p_iconst (pc := 74) C dX4_readingsAreSo_74 (by decide) ?_
            refine p_zret (pc := 75) C dX4_readingsAreSo_75 (by first | exact Or.inl rfl | exact Or.inr rfl | (split <;> simp)) ?_
            exact ⟨by rw [if_neg (by rw [← h3, if_neg (by first | omega | (rw [if_pos (by omega)]; omega) | (rw [if_neg (by omega)]; omega))]; decide)], rfl⟩
        · refine p_iconst (pc := 56) C dX4_readingsAreSo_56 (by decide) ?_
          refine p_goto (pc := 57) (tgt := 61) C dX4_readingsAreSo_57 (by decide) ?_
          refine p_istore (pc := 61) (ls' := [(5, _), (4, _), (3, _), (0, _), (1, _), (2, _)]) C dX4_readingsAreSo_61 (by decide) rfl ?_
          refine p_iload (pc := 63) C dX4_readingsAreSo_63 rfl ?_
          refine p_aload_n (pc := 65) C dX4_readingsAreSo_65 rfl ?_
          refine p_get (pc := 66) C fl_X4_47 dX4_readingsAreSo_66 ⟨by omega, by omega⟩ (by (repeat refine mg_n (by omega) ?_); first | assumption | exact mup_s _ _ _) (by rfl) ?_
          refine p_iload_n (pc := 69) C dX4_readingsAreSo_69 rfl ?_
          refine p_iald (pc := 70) C dX4_readingsAreSo_70 ⟨by omega, by omega⟩ (by (repeat refine mg_n (by omega) ?_); first | assumption | exact mup_s _ _ _) (by omega) ?_
          refine p_icmp_eq (pc := 71) (tgt := 76) C dX4_readingsAreSo_71 (by decide) (fun c_71 => ?_) (fun c_71 => ?_)
          · refine p_iinc (pc := 76) (ls' := [(3, _), (5, _), (4, _), (0, _), (1, _), (2, _)]) C dX4_readingsAreSo_76 (by decide) rfl ⟨by omega, by omega⟩ rfl ?_
            refine p_goto (pc := 79) (tgt := 2) C dX4_readingsAreSo_79 (by decide) ?_
            refine p_pick [0, 3, 4, 5] (ls' := [(3, _), (0, _), (1, _), (2, _)]) rfl ?_
            exact ih (i + 1) (by omega) (by omega) (by
              first
                | (rw [if_pos (by omega)] at h3; exact h3)
                | (rw [if_pos (by rw [if_pos (by omega)]; omega)] at h3; exact h3)
                | (rw [if_pos (by rw [if_neg (by omega)]; omega)] at h3; exact h3))
          · refine p_iconst (pc := 74) C dX4_readingsAreSo_74 (by decide) ?_
            refine p_zret (pc := 75) C dX4_readingsAreSo_75 (by first | exact Or.inl rfl | exact Or.inr rfl | (split <;> simp)) ?_
            exact ⟨by rw [if_neg (by rw [← h3, if_neg (by first | omega | (rw [if_pos (by omega)]; omega) | (rw [if_neg (by omega)]; omega))]; decide)], rfl⟩
      · refine p_iload_n (pc := 20) C dX4_readingsAreSo_20 rfl ?_
        refine p_goto (pc := 21) (tgt := 38) C dX4_readingsAreSo_21 (by decide) ?_
        refine p_istore (pc := 38) (ls' := [(4, _), (3, _), (0, _), (1, _), (2, _)]) C dX4_readingsAreSo_38 (by decide) rfl ?_
        refine p_aload_n (pc := 40) C dX4_readingsAreSo_40 rfl ?_
        refine p_get (pc := 41) C fl_X4_11 dX4_readingsAreSo_41 ⟨by omega, by omega⟩ (by (repeat refine mg_n (by omega) ?_); first | assumption | exact mup_s _ _ _) (by rfl) ?_
        refine p_aload_n (pc := 44) C dX4_readingsAreSo_44 rfl ?_
        refine p_get (pc := 45) C fl_X4_44 dX4_readingsAreSo_45 ⟨by omega, by omega⟩ (by (repeat refine mg_n (by omega) ?_); first | assumption | exact mup_s _ _ _) (by rfl) ?_
        refine p_iload_n (pc := 48) C dX4_readingsAreSo_48 rfl ?_
        refine p_iald (pc := 49) C dX4_readingsAreSo_49 ⟨by omega, by omega⟩ (by (repeat refine mg_n (by omega) ?_); first | assumption | exact mup_s _ _ _) (by omega) ?_
        refine p_iald (pc := 50) C dX4_readingsAreSo_50 ⟨by omega, by omega⟩ (by (repeat refine mg_n (by omega) ?_); first | assumption | exact mup_s _ _ _) (by omega) ?_
        refine p_iload (pc := 51) C dX4_readingsAreSo_51 rfl ?_
        refine p_icmp_le (pc := 53) (tgt := 60) C dX4_readingsAreSo_53 (by decide) (fun c_53 => ?_) (fun c_53 => ?_)
        · refine p_iconst (pc := 60) C dX4_readingsAreSo_60 (by decide) ?_
          refine p_istore (pc := 61) (ls' := [(5, _), (4, _), (3, _), (0, _), (1, _), (2, _)]) C dX4_readingsAreSo_61 (by decide) rfl ?_
          refine p_iload (pc := 63) C dX4_readingsAreSo_63 rfl ?_
          refine p_aload_n (pc := 65) C dX4_readingsAreSo_65 rfl ?_
          refine p_get (pc := 66) C fl_X4_47 dX4_readingsAreSo_66 ⟨by omega, by omega⟩ (by (repeat refine mg_n (by omega) ?_); first | assumption | exact mup_s _ _ _) (by rfl) ?_
          refine p_iload_n (pc := 69) C dX4_readingsAreSo_69 rfl ?_
          refine p_iald (pc := 70) C dX4_readingsAreSo_70 ⟨by omega, by omega⟩ (by (repeat refine mg_n (by omega) ?_); first | assumption | exact mup_s _ _ _) (by omega) ?_
          refine p_icmp_eq (pc := 71) (tgt := 76) C dX4_readingsAreSo_71 (by decide) (fun c_71 => ?_) (fun c_71 => ?_)
          · refine p_iinc (pc := 76) (ls' := [(3, _), (5, _), (4, _), (0, _), (1, _), (2, _)]) C dX4_readingsAreSo_76 (by decide) rfl ⟨by omega, by omega⟩ rfl ?_
            refine p_goto (pc := 79) (tgt := 2) C dX4_readingsAreSo_79 (by decide) ?_
            refine p_pick [0, 3, 4, 5] (ls' := [(3, _), (0, _), (1, _), (2, _)]) rfl ?_
            exact ih (i + 1) (by omega) (by omega) (by
              first
                | (rw [if_pos (by omega)] at h3; exact h3)
                | (rw [if_pos (by rw [if_pos (by omega)]; omega)] at h3; exact h3)
                | (rw [if_pos (by rw [if_neg (by omega)]; omega)] at h3; exact h3))
          · refine p_iconst (pc := 74) C dX4_readingsAreSo_74 (by decide) ?_
            refine p_zret (pc := 75) C dX4_readingsAreSo_75 (by first | exact Or.inl rfl | exact Or.inr rfl | (split <;> simp)) ?_
            exact ⟨by rw [if_neg (by rw [← h3, if_neg (by first | omega | (rw [if_pos (by omega)]; omega) | (rw [if_neg (by omega)]; omega))]; decide)], rfl⟩
        · refine p_iconst (pc := 56) C dX4_readingsAreSo_56 (by decide) ?_
          refine p_goto (pc := 57) (tgt := 61) C dX4_readingsAreSo_57 (by decide) ?_
          refine p_istore (pc := 61) (ls' := [(5, _), (4, _), (3, _), (0, _), (1, _), (2, _)]) C dX4_readingsAreSo_61 (by decide) rfl ?_
          refine p_iload (pc := 63) C dX4_readingsAreSo_63 rfl ?_
          refine p_aload_n (pc := 65) C dX4_readingsAreSo_65 rfl ?_
          refine p_get (pc := 66) C fl_X4_47 dX4_readingsAreSo_66 ⟨by omega, by omega⟩ (by (repeat refine mg_n (by omega) ?_); first | assumption | exact mup_s _ _ _) (by rfl) ?_
          refine p_iload_n (pc := 69) C dX4_readingsAreSo_69 rfl ?_
          refine p_iald (pc := 70) C dX4_readingsAreSo_70 ⟨by omega, by omega⟩ (by (repeat refine mg_n (by omega) ?_); first | assumption | exact mup_s _ _ _) (by omega) ?_
          refine p_icmp_eq (pc := 71) (tgt := 76) C dX4_readingsAreSo_71 (by decide) (fun c_71 => ?_) (fun c_71 => ?_)
          · refine p_iinc (pc := 76) (ls' := [(3, _), (5, _), (4, _), (0, _), (1, _), (2, _)]) C dX4_readingsAreSo_76 (by decide) rfl ⟨by omega, by omega⟩ rfl ?_
            refine p_goto (pc := 79) (tgt := 2) C dX4_readingsAreSo_79 (by decide) ?_
            refine p_pick [0, 3, 4, 5] (ls' := [(3, _), (0, _), (1, _), (2, _)]) rfl ?_
            exact ih (i + 1) (by omega) (by omega) (by
              first
                | (rw [if_pos (by omega)] at h3; exact h3)
                | (rw [if_pos (by rw [if_pos (by omega)]; omega)] at h3; exact h3)
                | (rw [if_pos (by rw [if_neg (by omega)]; omega)] at h3; exact h3))
          · refine p_iconst (pc := 74) C dX4_readingsAreSo_74 (by decide) ?_
            refine p_zret (pc := 75) C dX4_readingsAreSo_75 (by first | exact Or.inl rfl | exact Or.inr rfl | (split <;> simp)) ?_
            exact ⟨by rw [if_neg (by rw [← h3, if_neg (by first | omega | (rw [if_pos (by omega)]; omega) | (rw [if_neg (by omega)]; omega))]; decide)], rfl⟩
  refine p_iconst (pc := 0) C dX4_readingsAreSo_0 (by decide) ?_
  refine p_istore_n (pc := 1) (ls' := [(3, _), (0, _), (1, _), (2, _)]) C dX4_readingsAreSo_1 (by decide) rfl ?_
  exact L nr.toNat 0 (by omega) (by omega) rfl

/-- the greatest that divides both, from d down -/
def cdN (u l : Int) : Nat → Int
  | 0 => 1
  | d + 1 => if (d : Int) + 1 ≤ 1 then 1 else if u % ((d : Int) + 1) = 0 ∧ l % ((d : Int) + 1) = 0 then (d : Int) + 1 else cdN u l d
theorem cdN_p (u l : Int) : ∀ d : Nat, 1 ≤ cdN u l d ∧ (cdN u l d = 1 ∨ cdN u l d ≤ (d : Int))
  | 0 => by simp [cdN]
  | d + 1 => by
    have := cdN_p u l d
    simp only [cdN]
    split
    · omega
    · split
      · push_cast; omega
      · push_cast; omega

set_option maxHeartbeats 4000000 in
set_option maxRecDepth 100000 in
theorem k_X4_commonDivisor {K : KX} {d : Nat} {μ : Int → ME} {u l : Int} (hu : 0 ≤ u ∧ u ≤ 1000) (hl : 0 ≤ l ∧ l ≤ 1000) : Ct K (d) yX4_commonDivisor cX4_commonDivisor 3 (some .int) [vI u, vI l] μ (pF (vI (cdN u l l.toNat)) μ) := by
  refine Ct.of (by decide) (Nat.le_of_ble_eq_true rfl) (fun X C => ?_)
  have L : ∀ (t : Nat) (i : Int), i = (t : Int) → cdN u l t = cdN u l l.toNat → i ≤ 1000 → PW K X 3 (QM K X (pF (vI (cdN u l l.toNat)) μ)) 2 [(2, vI i), (0, vI u), (1, vI l)] [] μ := by
    intro t
    induction t with
    | zero =>
      intro i h1 h3 h4
      refine p_iload_n (pc := 2) C dX4_commonDivisor_2 rfl ?_
      refine p_iconst (pc := 3) C dX4_commonDivisor_3 (by decide) ?_
      refine p_icmp_le (pc := 4) (tgt := 27) C dX4_commonDivisor_4 (by decide) (fun c_4 => ?_) (fun h => by exfalso; omega)
      refine p_iconst (pc := 27) C dX4_commonDivisor_27 (by decide) ?_
      refine p_iret (pc := 28) C dX4_commonDivisor_28 ?_
      exact ⟨sv (by rw [← h3]; rfl), rfl⟩
    | succ t ih =>
      intro i h1 h3 h4
      subst h1
      rw [cdN] at h3
      refine p_iload_n (pc := 2) C dX4_commonDivisor_2 rfl ?_
      refine p_iconst (pc := 3) C dX4_commonDivisor_3 (by decide) ?_
      refine p_icmp_le (pc := 4) (tgt := 27) C dX4_commonDivisor_4 (by decide) (fun c_4 => ?_) (fun c_4 => ?_)
      · refine p_iconst (pc := 27) C dX4_commonDivisor_27 (by decide) ?_
        refine p_iret (pc := 28) C dX4_commonDivisor_28 ?_
        first
          | exact ⟨sv (by rw [← h3, if_pos (by omega)]), rfl⟩
          | exact ⟨sv (by rw [← h3, if_neg (by omega), if_pos ⟨by assumption, by assumption⟩]; push_cast; rfl), rfl⟩
      · refine p_iload_n (pc := 7) C dX4_commonDivisor_7 rfl ?_
        refine p_iload_n (pc := 8) C dX4_commonDivisor_8 rfl ?_
        refine p_irem (pc := 9) C dX4_commonDivisor_9 (by omega) (by omega) ?_
        refine p_if_ne (pc := 10) (tgt := 21) C dX4_commonDivisor_10 (by decide) (fun c_10 => ?_) (fun c_10 => ?_)
        · refine p_iinc (pc := 21) (ls' := [(2, _), (0, _), (1, _)]) C dX4_commonDivisor_21 (by decide) rfl ⟨by omega, by omega⟩ rfl ?_
          refine p_goto (pc := 24) (tgt := 2) C dX4_commonDivisor_24 (by decide) ?_
          exact ih _ (by push_cast; omega) (by
            first
              | (rw [if_neg (by omega), if_neg (fun z => c_10 z.1)] at h3; exact h3)
              | (rw [if_neg (by omega), if_neg (fun z => c_16 z.2)] at h3; exact h3)) (by omega)
        · refine p_iload_n (pc := 13) C dX4_commonDivisor_13 rfl ?_
          refine p_iload_n (pc := 14) C dX4_commonDivisor_14 rfl ?_
          refine p_irem (pc := 15) C dX4_commonDivisor_15 (by omega) (by omega) ?_
          refine p_if_ne (pc := 16) (tgt := 21) C dX4_commonDivisor_16 (by decide) (fun c_16 => ?_) (fun c_16 => ?_)
          · refine p_iinc (pc := 21) (ls' := [(2, _), (0, _), (1, _)]) C dX4_commonDivisor_21 (by decide) rfl ⟨by omega, by omega⟩ rfl ?_
            refine p_goto (pc := 24) (tgt := 2) C dX4_commonDivisor_24 (by decide) ?_
            exact ih _ (by push_cast; omega) (by
              first
                | (rw [if_neg (by omega), if_neg (fun z => c_10 z.1)] at h3; exact h3)
                | (rw [if_neg (by omega), if_neg (fun z => c_16 z.2)] at h3; exact h3)) (by omega)
          · refine p_iload_n (pc := 19) C dX4_commonDivisor_19 rfl ?_
            refine p_iret (pc := 20) C dX4_commonDivisor_20 ?_
            first
              | exact ⟨sv (by rw [← h3, if_pos (by omega)]), rfl⟩
              | exact ⟨sv (by rw [← h3, if_neg (by omega), if_pos ⟨by assumption, by assumption⟩]; push_cast; rfl), rfl⟩
  refine p_iload_n (pc := 0) C dX4_commonDivisor_0 rfl ?_
  refine p_istore_n (pc := 1) (ls' := [(2, _), (0, _), (1, _)]) C dX4_commonDivisor_1 (by decide) rfl ?_
  exact L l.toNat l (by omega) rfl (by omega)

set_option maxHeartbeats 4000000 in
set_option maxRecDepth 100000 in
theorem k_X4_ofShare {K : KX} {d : Nat} {μ : Int → ME} {u l w : Int} (hu : 0 ≤ u ∧ u ≤ 1000) (hl : 0 ≤ l ∧ l ≤ 1000) : Ct K (d + 1) yX4_ofShare cX4_ofShare 4 (some .long) [vI u, vI l, vI w] μ (pF (vL ((if w = 0 then u else l) / cdN u l l.toNat)) μ) := by
  refine Ct.of (by decide) (Nat.le_of_ble_eq_true rfl) (fun X C => ?_)
  refine p_iload_n (pc := 0) C dX4_ofShare_0 rfl ?_
  refine p_iload_n (pc := 1) C dX4_ofShare_1 rfl ?_
  refine p_callSF (pc := 2) C ln_X4_329 dX4_ofShare_2 (k_X4_commonDivisor hu hl) rfl rfl (Nat.le_of_ble_eq_true rfl) ?_
  refine p_istore_n (pc := 5) (ls' := [(3, _), (0, _), (1, _), (2, _)]) C dX4_ofShare_5 (by decide) rfl ?_
  have hcd := cdN_p u l l.toNat
  refine p_iload_n (pc := 6) C dX4_ofShare_6 rfl ?_
  refine p_if_ne (pc := 7) (tgt := 14) C dX4_ofShare_7 (by decide) (fun c_7 => ?_) (fun c_7 => ?_)
  · refine p_iload_n (pc := 14) C dX4_ofShare_14 rfl ?_
    refine p_iload_n (pc := 15) C dX4_ofShare_15 rfl ?_
    refine p_idiv (pc := 16) C dX4_ofShare_16 (by omega) (by omega) ?_
    refine p_i2l (pc := 17) C dX4_ofShare_17 ?_
    refine p_lret (pc := 18) C dX4_ofShare_18 ?_
    exact ⟨svL (by first | rw [if_pos (by omega)] | rw [if_neg (by omega)]), rfl⟩
  · refine p_iload_n (pc := 10) C dX4_ofShare_10 rfl ?_
    refine p_goto (pc := 11) (tgt := 15) C dX4_ofShare_11 (by decide) ?_
    refine p_iload_n (pc := 15) C dX4_ofShare_15 rfl ?_
    refine p_idiv (pc := 16) C dX4_ofShare_16 (by omega) (by omega) ?_
    refine p_i2l (pc := 17) C dX4_ofShare_17 ?_
    refine p_lret (pc := 18) C dX4_ofShare_18 ?_
    exact ⟨svL (by first | rw [if_pos (by omega)] | rw [if_neg (by omega)]), rfl⟩

theorem iwr_lo {w : Int} (h : rng w) : iwr (w - 10) = (if w < -2147483638 then w - 10 + 4294967296 else w - 10) := by
  split
  · have e : Int32.ofInt (w - 10) = Int32.ofInt (w - 10 + 4294967296) := by
      rw [Int32.ofInt_add]
      have : Int32.ofInt 4294967296 = 0 := by decide +kernel
      rw [this, Int32.add_zero]
    unfold iwr
    rw [e]
    exact zi ⟨by omega, by omega⟩
  · exact iwr_id ⟨by omega, by omega⟩

set_option maxHeartbeats 4000000 in
set_option maxRecDepth 100000 in
theorem k_X4_isAskedOfVoyage {K : KX} {d : Nat} {μ : Int → ME} {v : Int} (hv : rng v) : Ct K (d + 1) yX4_isAskedOfVoyage cX4_isAskedOfVoyage 1 (some .boolean) [vI v] μ (pF (vI (if (0 ≤ v ∧ v ≤ 4) ∨ (10 ≤ v ∧ v < 15) then 1 else 0)) μ) := by
  refine Ct.of (by decide) (Nat.le_of_ble_eq_true rfl) (fun X C => ?_)
  refine p_iload_n (pc := 0) C dX4_isAskedOfVoyage_0 rfl ?_
  refine p_iconst (pc := 1) C dX4_isAskedOfVoyage_1 (by decide) ?_
  refine p_callSF (pc := 2) C ln_X4_127 dX4_isAskedOfVoyage_2 (k_X4_isUpTo) rfl rfl (Nat.le_of_ble_eq_true rfl) ?_
  refine p_ifne_b (pc := 5) (tgt := 19) C dX4_isAskedOfVoyage_5 (by decide) (fun c_5 => ?_) (fun c_5 => ?_)
  · refine p_iconst (pc := 19) C dX4_isAskedOfVoyage_19 (by decide) ?_
    refine p_goto (pc := 20) (tgt := 24) C dX4_isAskedOfVoyage_20 (by decide) ?_
    refine p_zret (pc := 24) C dX4_isAskedOfVoyage_24 (by first | exact Or.inl rfl | exact Or.inr rfl | (split <;> simp)) ?_
    first
      | exact ⟨by rw [if_pos (by omega)], rfl⟩
      | exact ⟨by rw [if_neg (by omega)], rfl⟩
  · have hw := iwr_lo hv
    refine p_iload_n (pc := 8) C dX4_isAskedOfVoyage_8 rfl ?_
    refine p_bipush (pc := 9) C dX4_isAskedOfVoyage_9 (by decide) ?_
    refine p_isubw (pc := 11) C dX4_isAskedOfVoyage_11 ?_
    refine p_iconst (pc := 12) C dX4_isAskedOfVoyage_12 (by decide) ?_
    refine p_callSF (pc := 13) C ln_X4_66 dX4_isAskedOfVoyage_13 (k_X4_isBelow) rfl rfl (Nat.le_of_ble_eq_true rfl) ?_
    refine p_ifeq_b (pc := 16) (tgt := 23) C dX4_isAskedOfVoyage_16 (by decide) (fun c_16 => ?_) (fun c_16 => ?_)
    · refine p_iconst (pc := 23) C dX4_isAskedOfVoyage_23 (by decide) ?_
      refine p_zret (pc := 24) C dX4_isAskedOfVoyage_24 (by first | exact Or.inl rfl | exact Or.inr rfl | (split <;> simp)) ?_
      first
        | exact ⟨by rw [if_pos (by omega)], rfl⟩
        | exact ⟨by rw [if_neg (by omega)], rfl⟩
    · refine p_iconst (pc := 19) C dX4_isAskedOfVoyage_19 (by decide) ?_
      refine p_goto (pc := 20) (tgt := 24) C dX4_isAskedOfVoyage_20 (by decide) ?_
      refine p_zret (pc := 24) C dX4_isAskedOfVoyage_24 (by first | exact Or.inl rfl | exact Or.inr rfl | (split <;> simp)) ?_
      first
        | exact ⟨by rw [if_pos (by omega)], rfl⟩
        | exact ⟨by rw [if_neg (by omega)], rfl⟩
end
section
theorem zz_end : True := trivial
end
