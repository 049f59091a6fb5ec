section
-- ===== PART A: goes FIRST, ahead of the names: the tables' words, and 'selects' of the private methods out of them =====
/-- a private method of a class that the tables say can be made, by its rows of tables_1 -/
def lw_okq (q : MethodName × Nat) : Prop := (q.1.cls ≠ "java/lang/invoke/MethodHandle" ∧ q.1.cls ≠ "java/lang/invoke/VarHandle") ∧ Cond.instantiable q.1.cls q.2 ∈ tables_1 ∧ Cond.privateMethod q.1 ∈ tables_1 ∧ Cond.instanceMethod q.1 ∈ tables_1
theorem lw_p0 : lw_okq (⟨"java/lang/Throwable", "fillInStackTrace", "(I)Ljava/lang/Throwable;"⟩, 6) := ⟨⟨by decide +kernel, by decide +kernel⟩, List.mem_of_getElem? (i := 220) (by decide +kernel), List.mem_of_getElem? (i := 218) (by decide +kernel), List.mem_of_getElem? (i := 219) (by decide +kernel)⟩
theorem lw_p1 : lw_okq (⟨"PlaceFinder", "drawFixed", "(LPlaceFinder$Place;)I"⟩, 4) := ⟨⟨by decide +kernel, by decide +kernel⟩, List.mem_of_getElem? (i := 17) (by decide +kernel), List.mem_of_getElem? (i := 340) (by decide +kernel), List.mem_of_getElem? (i := 341) (by decide +kernel)⟩
theorem lw_p2 : lw_okq (⟨"PlaceFinder", "drawCorner", "(LPlaceFinder$Place;II)I"⟩, 4) := ⟨⟨by decide +kernel, by decide +kernel⟩, List.mem_of_getElem? (i := 17) (by decide +kernel), List.mem_of_getElem? (i := 344) (by decide +kernel), List.mem_of_getElem? (i := 345) (by decide +kernel)⟩
theorem lw_p3 : lw_okq (⟨"PlaceFinder", "drawModule", "(LPlaceFinder$Place;IIZ)I"⟩, 4) := ⟨⟨by decide +kernel, by decide +kernel⟩, List.mem_of_getElem? (i := 17) (by decide +kernel), List.mem_of_getElem? (i := 356) (by decide +kernel), List.mem_of_getElem? (i := 357) (by decide +kernel)⟩
theorem lw_p4 : lw_okq (⟨"PlaceFinder$Paper", "isLight", "(I)Z"⟩, 5) := ⟨⟨by decide +kernel, by decide +kernel⟩, List.mem_of_getElem? (i := 31) (by decide +kernel), List.mem_of_getElem? (i := 381) (by decide +kernel), List.mem_of_getElem? (i := 382) (by decide +kernel)⟩
theorem lw_p5 : lw_okq (⟨"PlaceFinder$Paper", "addUpRow", "(I)V"⟩, 5) := ⟨⟨by decide +kernel, by decide +kernel⟩, List.mem_of_getElem? (i := 31) (by decide +kernel), List.mem_of_getElem? (i := 388) (by decide +kernel), List.mem_of_getElem? (i := 389) (by decide +kernel)⟩
theorem lw_p6 : lw_okq (⟨"PlaceFinder$Search", "siftFinders", "(IIIII)V"⟩, 14) := ⟨⟨by decide +kernel, by decide +kernel⟩, List.mem_of_getElem? (i := 25) (by decide +kernel), List.mem_of_getElem? (i := 399) (by decide +kernel), List.mem_of_getElem? (i := 400) (by decide +kernel)⟩
theorem lw_p7 : lw_okq (⟨"PlaceFinder$Search", "takeTile", "(IIII)V"⟩, 14) := ⟨⟨by decide +kernel, by decide +kernel⟩, List.mem_of_getElem? (i := 25) (by decide +kernel), List.mem_of_getElem? (i := 403) (by decide +kernel), List.mem_of_getElem? (i := 404) (by decide +kernel)⟩
theorem lw_p8 : lw_okq (⟨"PlaceFinder$Search", "finderFloor", "(II)I"⟩, 14) := ⟨⟨by decide +kernel, by decide +kernel⟩, List.mem_of_getElem? (i := 25) (by decide +kernel), List.mem_of_getElem? (i := 407) (by decide +kernel), List.mem_of_getElem? (i := 408) (by decide +kernel)⟩
theorem lw_p9 : lw_okq (⟨"PlaceFinder$Search", "mostDark", "(IIII)I"⟩, 14) := ⟨⟨by decide +kernel, by decide +kernel⟩, List.mem_of_getElem? (i := 25) (by decide +kernel), List.mem_of_getElem? (i := 411) (by decide +kernel), List.mem_of_getElem? (i := 412) (by decide +kernel)⟩
theorem lw_p10 : lw_okq (⟨"PlaceFinder$Search", "isSingle", "()Z"⟩, 14) := ⟨⟨by decide +kernel, by decide +kernel⟩, List.mem_of_getElem? (i := 25) (by decide +kernel), List.mem_of_getElem? (i := 419) (by decide +kernel), List.mem_of_getElem? (i := 420) (by decide +kernel)⟩
theorem lw_p11 : lw_okq (⟨"PlaceFinder$Search", "leastDark", "(IIII)I"⟩, 14) := ⟨⟨by decide +kernel, by decide +kernel⟩, List.mem_of_getElem? (i := 25) (by decide +kernel), List.mem_of_getElem? (i := 424) (by decide +kernel), List.mem_of_getElem? (i := 425) (by decide +kernel)⟩
theorem lw_p12 : lw_okq (⟨"PlaceFinder$Search", "isAlike", "(III)Z"⟩, 14) := ⟨⟨by decide +kernel, by decide +kernel⟩, List.mem_of_getElem? (i := 25) (by decide +kernel), List.mem_of_getElem? (i := 428) (by decide +kernel), List.mem_of_getElem? (i := 429) (by decide +kernel)⟩
theorem lw_p13 : lw_okq (⟨"PlaceFinder$Search", "siftVersions", "(IIII)V"⟩, 14) := ⟨⟨by decide +kernel, by decide +kernel⟩, List.mem_of_getElem? (i := 25) (by decide +kernel), List.mem_of_getElem? (i := 432) (by decide +kernel), List.mem_of_getElem? (i := 433) (by decide +kernel)⟩
theorem lw_p14 : lw_okq (⟨"PlaceFinder$Search", "cornerWrong", "(III)I"⟩, 14) := ⟨⟨by decide +kernel, by decide +kernel⟩, List.mem_of_getElem? (i := 25) (by decide +kernel), List.mem_of_getElem? (i := 436) (by decide +kernel), List.mem_of_getElem? (i := 437) (by decide +kernel)⟩
theorem lw_p15 : lw_okq (⟨"PlaceFinder$Search", "siftPlaces", "(IIIIIII)V"⟩, 14) := ⟨⟨by decide +kernel, by decide +kernel⟩, List.mem_of_getElem? (i := 25) (by decide +kernel), List.mem_of_getElem? (i := 446) (by decide +kernel), List.mem_of_getElem? (i := 447) (by decide +kernel)⟩
def lw_privs_1 : List (MethodName × Nat) := [(⟨"java/lang/Throwable", "fillInStackTrace", "(I)Ljava/lang/Throwable;"⟩, 6), (⟨"PlaceFinder", "drawFixed", "(LPlaceFinder$Place;)I"⟩, 4), (⟨"PlaceFinder", "drawCorner", "(LPlaceFinder$Place;II)I"⟩, 4), (⟨"PlaceFinder", "drawModule", "(LPlaceFinder$Place;IIZ)I"⟩, 4), (⟨"PlaceFinder$Paper", "isLight", "(I)Z"⟩, 5), (⟨"PlaceFinder$Paper", "addUpRow", "(I)V"⟩, 5), (⟨"PlaceFinder$Search", "siftFinders", "(IIIII)V"⟩, 14), (⟨"PlaceFinder$Search", "takeTile", "(IIII)V"⟩, 14), (⟨"PlaceFinder$Search", "finderFloor", "(II)I"⟩, 14), (⟨"PlaceFinder$Search", "mostDark", "(IIII)I"⟩, 14), (⟨"PlaceFinder$Search", "isSingle", "()Z"⟩, 14), (⟨"PlaceFinder$Search", "leastDark", "(IIII)I"⟩, 14), (⟨"PlaceFinder$Search", "isAlike", "(III)Z"⟩, 14), (⟨"PlaceFinder$Search", "siftVersions", "(IIII)V"⟩, 14), (⟨"PlaceFinder$Search", "cornerWrong", "(III)I"⟩, 14), (⟨"PlaceFinder$Search", "siftPlaces", "(IIIIIII)V"⟩, 14)]
theorem lw_r1 : ∀ q ∈ lw_privs_1, lw_okq q := List.forall_mem_cons.mpr ⟨lw_p0, List.forall_mem_cons.mpr ⟨lw_p1, List.forall_mem_cons.mpr ⟨lw_p2, List.forall_mem_cons.mpr ⟨lw_p3, List.forall_mem_cons.mpr ⟨lw_p4, List.forall_mem_cons.mpr ⟨lw_p5, List.forall_mem_cons.mpr ⟨lw_p6, List.forall_mem_cons.mpr ⟨lw_p7, List.forall_mem_cons.mpr ⟨lw_p8, List.forall_mem_cons.mpr ⟨lw_p9, List.forall_mem_cons.mpr ⟨lw_p10, List.forall_mem_cons.mpr ⟨lw_p11, List.forall_mem_cons.mpr ⟨lw_p12, List.forall_mem_cons.mpr ⟨lw_p13, List.forall_mem_cons.mpr ⟨lw_p14, List.forall_mem_cons.mpr ⟨lw_p15, fun _ h => absurd h List.not_mem_nil⟩⟩⟩⟩⟩⟩⟩⟩⟩⟩⟩⟩⟩⟩⟩⟩
theorem lw_p16 : lw_okq (⟨"PlaceFinder$Search", "finderX", "(I)I"⟩, 14) := ⟨⟨by decide +kernel, by decide +kernel⟩, List.mem_of_getElem? (i := 25) (by decide +kernel), List.mem_of_getElem? (i := 453) (by decide +kernel), List.mem_of_getElem? (i := 454) (by decide +kernel)⟩
theorem lw_p17 : lw_okq (⟨"PlaceFinder$Search", "finderY", "(I)I"⟩, 14) := ⟨⟨by decide +kernel, by decide +kernel⟩, List.mem_of_getElem? (i := 25) (by decide +kernel), List.mem_of_getElem? (i := 457) (by decide +kernel), List.mem_of_getElem? (i := 458) (by decide +kernel)⟩
theorem lw_p18 : lw_okq (⟨"PlaceFinder$Search", "borderFloor", "(III)I"⟩, 14) := ⟨⟨by decide +kernel, by decide +kernel⟩, List.mem_of_getElem? (i := 25) (by decide +kernel), List.mem_of_getElem? (i := 461) (by decide +kernel), List.mem_of_getElem? (i := 462) (by decide +kernel)⟩
theorem lw_p19 : lw_okq (⟨"PlaceFinder$Search", "withCorner", "(III)I"⟩, 14) := ⟨⟨by decide +kernel, by decide +kernel⟩, List.mem_of_getElem? (i := 25) (by decide +kernel), List.mem_of_getElem? (i := 465) (by decide +kernel), List.mem_of_getElem? (i := 466) (by decide +kernel)⟩
theorem lw_p20 : lw_okq (⟨"PlaceFinder$Search", "spotFloor", "(I)I"⟩, 14) := ⟨⟨by decide +kernel, by decide +kernel⟩, List.mem_of_getElem? (i := 25) (by decide +kernel), List.mem_of_getElem? (i := 469) (by decide +kernel), List.mem_of_getElem? (i := 470) (by decide +kernel)⟩
theorem lw_p21 : lw_okq (⟨"PlaceFinder$Search", "lineFloor", "(I)I"⟩, 14) := ⟨⟨by decide +kernel, by decide +kernel⟩, List.mem_of_getElem? (i := 25) (by decide +kernel), List.mem_of_getElem? (i := 473) (by decide +kernel), List.mem_of_getElem? (i := 474) (by decide +kernel)⟩
theorem lw_p22 : lw_okq (⟨"PlaceFinder$Search", "lineX", "(I)I"⟩, 14) := ⟨⟨by decide +kernel, by decide +kernel⟩, List.mem_of_getElem? (i := 25) (by decide +kernel), List.mem_of_getElem? (i := 477) (by decide +kernel), List.mem_of_getElem? (i := 478) (by decide +kernel)⟩
theorem lw_p23 : lw_okq (⟨"PlaceFinder$Search", "lineY", "(I)I"⟩, 14) := ⟨⟨by decide +kernel, by decide +kernel⟩, List.mem_of_getElem? (i := 25) (by decide +kernel), List.mem_of_getElem? (i := 481) (by decide +kernel), List.mem_of_getElem? (i := 482) (by decide +kernel)⟩
theorem lw_p24 : lw_okq (⟨"PlaceFinder$Search", "judge", "(I)V"⟩, 14) := ⟨⟨by decide +kernel, by decide +kernel⟩, List.mem_of_getElem? (i := 25) (by decide +kernel), List.mem_of_getElem? (i := 485) (by decide +kernel), List.mem_of_getElem? (i := 486) (by decide +kernel)⟩
theorem lw_p25 : lw_okq (⟨"PlaceFinder$Search", "withLine", "(II)I"⟩, 14) := ⟨⟨by decide +kernel, by decide +kernel⟩, List.mem_of_getElem? (i := 25) (by decide +kernel), List.mem_of_getElem? (i := 489) (by decide +kernel), List.mem_of_getElem? (i := 490) (by decide +kernel)⟩
theorem lw_p26 : lw_okq (⟨"PlaceFinder$PlaceList", "leads", "(I)Z"⟩, 3) := ⟨⟨by decide +kernel, by decide +kernel⟩, List.mem_of_getElem? (i := 60) (by decide +kernel), List.mem_of_getElem? (i := 503) (by decide +kernel), List.mem_of_getElem? (i := 504) (by decide +kernel)⟩
theorem lw_p27 : lw_okq (⟨"PlaceFinder$PlaceList", "isBetter", "(II)Z"⟩, 3) := ⟨⟨by decide +kernel, by decide +kernel⟩, List.mem_of_getElem? (i := 60) (by decide +kernel), List.mem_of_getElem? (i := 507) (by decide +kernel), List.mem_of_getElem? (i := 508) (by decide +kernel)⟩
theorem lw_p28 : lw_okq (⟨"PlaceFinder", "isMostlyDark", "(LPlaceFinder$Place;II)Z"⟩, 4) := ⟨⟨by decide +kernel, by decide +kernel⟩, List.mem_of_getElem? (i := 17) (by decide +kernel), List.mem_of_getElem? (i := 550) (by decide +kernel), List.mem_of_getElem? (i := 551) (by decide +kernel)⟩
theorem lw_p29 : lw_okq (⟨"PlaceFinderModel", "forget", "()V"⟩, 11) := ⟨⟨by decide +kernel, by decide +kernel⟩, List.mem_of_getElem? (i := 558) (by decide +kernel), List.mem_of_getElem? (i := 609) (by decide +kernel), List.mem_of_getElem? (i := 610) (by decide +kernel)⟩
theorem lw_p30 : lw_okq (⟨"PlaceFinderModel", "isOn", "(JJ)Z"⟩, 11) := ⟨⟨by decide +kernel, by decide +kernel⟩, List.mem_of_getElem? (i := 558) (by decide +kernel), List.mem_of_getElem? (i := 617) (by decide +kernel), List.mem_of_getElem? (i := 618) (by decide +kernel)⟩
theorem lw_p31 : lw_okq (⟨"PlaceFinderModel", "isDark", "(II)Z"⟩, 11) := ⟨⟨by decide +kernel, by decide +kernel⟩, List.mem_of_getElem? (i := 558) (by decide +kernel), List.mem_of_getElem? (i := 621) (by decide +kernel), List.mem_of_getElem? (i := 622) (by decide +kernel)⟩
def lw_privs_2 : List (MethodName × Nat) := [(⟨"PlaceFinder$Search", "finderX", "(I)I"⟩, 14), (⟨"PlaceFinder$Search", "finderY", "(I)I"⟩, 14), (⟨"PlaceFinder$Search", "borderFloor", "(III)I"⟩, 14), (⟨"PlaceFinder$Search", "withCorner", "(III)I"⟩, 14), (⟨"PlaceFinder$Search", "spotFloor", "(I)I"⟩, 14), (⟨"PlaceFinder$Search", "lineFloor", "(I)I"⟩, 14), (⟨"PlaceFinder$Search", "lineX", "(I)I"⟩, 14), (⟨"PlaceFinder$Search", "lineY", "(I)I"⟩, 14), (⟨"PlaceFinder$Search", "judge", "(I)V"⟩, 14), (⟨"PlaceFinder$Search", "withLine", "(II)I"⟩, 14), (⟨"PlaceFinder$PlaceList", "leads", "(I)Z"⟩, 3), (⟨"PlaceFinder$PlaceList", "isBetter", "(II)Z"⟩, 3), (⟨"PlaceFinder", "isMostlyDark", "(LPlaceFinder$Place;II)Z"⟩, 4), (⟨"PlaceFinderModel", "forget", "()V"⟩, 11), (⟨"PlaceFinderModel", "isOn", "(JJ)Z"⟩, 11), (⟨"PlaceFinderModel", "isDark", "(II)Z"⟩, 11)]
theorem lw_r2 : ∀ q ∈ lw_privs_2, lw_okq q := List.forall_mem_cons.mpr ⟨lw_p16, List.forall_mem_cons.mpr ⟨lw_p17, List.forall_mem_cons.mpr ⟨lw_p18, List.forall_mem_cons.mpr ⟨lw_p19, List.forall_mem_cons.mpr ⟨lw_p20, List.forall_mem_cons.mpr ⟨lw_p21, List.forall_mem_cons.mpr ⟨lw_p22, List.forall_mem_cons.mpr ⟨lw_p23, List.forall_mem_cons.mpr ⟨lw_p24, List.forall_mem_cons.mpr ⟨lw_p25, List.forall_mem_cons.mpr ⟨lw_p26, List.forall_mem_cons.mpr ⟨lw_p27, List.forall_mem_cons.mpr ⟨lw_p28, List.forall_mem_cons.mpr ⟨lw_p29, List.forall_mem_cons.mpr ⟨lw_p30, List.forall_mem_cons.mpr ⟨lw_p31, fun _ h => absurd h List.not_mem_nil⟩⟩⟩⟩⟩⟩⟩⟩⟩⟩⟩⟩⟩⟩⟩⟩
theorem lw_p32 : lw_okq (⟨"PlaceFinderModel", "isPlace", "(III)Z"⟩, 11) := ⟨⟨by decide +kernel, by decide +kernel⟩, List.mem_of_getElem? (i := 558) (by decide +kernel), List.mem_of_getElem? (i := 640) (by decide +kernel), List.mem_of_getElem? (i := 641) (by decide +kernel)⟩
theorem lw_p33 : lw_okq (⟨"PlaceFinderModel", "differ", "(IIIZZ)I"⟩, 11) := ⟨⟨by decide +kernel, by decide +kernel⟩, List.mem_of_getElem? (i := 558) (by decide +kernel), List.mem_of_getElem? (i := 659) (by decide +kernel), List.mem_of_getElem? (i := 660) (by decide +kernel)⟩
theorem lw_p34 : lw_okq (⟨"PlaceFinderModel", "add", "()V"⟩, 11) := ⟨⟨by decide +kernel, by decide +kernel⟩, List.mem_of_getElem? (i := 558) (by decide +kernel), List.mem_of_getElem? (i := 667) (by decide +kernel), List.mem_of_getElem? (i := 668) (by decide +kernel)⟩
theorem lw_p35 : lw_okq (⟨"PlaceFinderModel", "list", "(I)V"⟩, 11) := ⟨⟨by decide +kernel, by decide +kernel⟩, List.mem_of_getElem? (i := 558) (by decide +kernel), List.mem_of_getElem? (i := 671) (by decide +kernel), List.mem_of_getElem? (i := 672) (by decide +kernel)⟩
theorem lw_p36 : lw_okq (⟨"PlaceFinderModel", "look", "(III)Z"⟩, 11) := ⟨⟨by decide +kernel, by decide +kernel⟩, List.mem_of_getElem? (i := 558) (by decide +kernel), List.mem_of_getElem? (i := 675) (by decide +kernel), List.mem_of_getElem? (i := 676) (by decide +kernel)⟩
theorem lw_p37 : lw_okq (⟨"PlaceFinderModel", "wrong", "(IIIIII)I"⟩, 11) := ⟨⟨by decide +kernel, by decide +kernel⟩, List.mem_of_getElem? (i := 558) (by decide +kernel), List.mem_of_getElem? (i := 679) (by decide +kernel), List.mem_of_getElem? (i := 680) (by decide +kernel)⟩
theorem lw_p38 : lw_okq (⟨"PlaceFinderModel", "darkIn", "(IIIIII)I"⟩, 11) := ⟨⟨by decide +kernel, by decide +kernel⟩, List.mem_of_getElem? (i := 558) (by decide +kernel), List.mem_of_getElem? (i := 683) (by decide +kernel), List.mem_of_getElem? (i := 684) (by decide +kernel)⟩
theorem lw_p39 : lw_okq (⟨"PlaceFinderModel", "enter", "(IIIIII)V"⟩, 11) := ⟨⟨by decide +kernel, by decide +kernel⟩, List.mem_of_getElem? (i := 558) (by decide +kernel), List.mem_of_getElem? (i := 690) (by decide +kernel), List.mem_of_getElem? (i := 691) (by decide +kernel)⟩
theorem lw_p40 : lw_okq (⟨"PlaceFinderModel", "order", "()V"⟩, 11) := ⟨⟨by decide +kernel, by decide +kernel⟩, List.mem_of_getElem? (i := 558) (by decide +kernel), List.mem_of_getElem? (i := 694) (by decide +kernel), List.mem_of_getElem? (i := 695) (by decide +kernel)⟩
theorem lw_p41 : lw_okq (⟨"PlaceFinderModel", "isBefore", "(II)Z"⟩, 11) := ⟨⟨by decide +kernel, by decide +kernel⟩, List.mem_of_getElem? (i := 558) (by decide +kernel), List.mem_of_getElem? (i := 698) (by decide +kernel), List.mem_of_getElem? (i := 699) (by decide +kernel)⟩
theorem lw_p42 : lw_okq (⟨"PlaceFinderModel", "leads", "(I)Z"⟩, 11) := ⟨⟨by decide +kernel, by decide +kernel⟩, List.mem_of_getElem? (i := 558) (by decide +kernel), List.mem_of_getElem? (i := 702) (by decide +kernel), List.mem_of_getElem? (i := 703) (by decide +kernel)⟩
theorem lw_p43 : lw_okq (⟨"PlaceFinderModel", "meet", "(II)Z"⟩, 11) := ⟨⟨by decide +kernel, by decide +kernel⟩, List.mem_of_getElem? (i := 558) (by decide +kernel), List.mem_of_getElem? (i := 706) (by decide +kernel), List.mem_of_getElem? (i := 707) (by decide +kernel)⟩
def lw_privs_3 : List (MethodName × Nat) := [(⟨"PlaceFinderModel", "isPlace", "(III)Z"⟩, 11), (⟨"PlaceFinderModel", "differ", "(IIIZZ)I"⟩, 11), (⟨"PlaceFinderModel", "add", "()V"⟩, 11), (⟨"PlaceFinderModel", "list", "(I)V"⟩, 11), (⟨"PlaceFinderModel", "look", "(III)Z"⟩, 11), (⟨"PlaceFinderModel", "wrong", "(IIIIII)I"⟩, 11), (⟨"PlaceFinderModel", "darkIn", "(IIIIII)I"⟩, 11), (⟨"PlaceFinderModel", "enter", "(IIIIII)V"⟩, 11), (⟨"PlaceFinderModel", "order", "()V"⟩, 11), (⟨"PlaceFinderModel", "isBefore", "(II)Z"⟩, 11), (⟨"PlaceFinderModel", "leads", "(I)Z"⟩, 11), (⟨"PlaceFinderModel", "meet", "(II)Z"⟩, 11)]
theorem lw_r3 : ∀ q ∈ lw_privs_3, lw_okq q := List.forall_mem_cons.mpr ⟨lw_p32, List.forall_mem_cons.mpr ⟨lw_p33, List.forall_mem_cons.mpr ⟨lw_p34, List.forall_mem_cons.mpr ⟨lw_p35, List.forall_mem_cons.mpr ⟨lw_p36, List.forall_mem_cons.mpr ⟨lw_p37, List.forall_mem_cons.mpr ⟨lw_p38, List.forall_mem_cons.mpr ⟨lw_p39, List.forall_mem_cons.mpr ⟨lw_p40, List.forall_mem_cons.mpr ⟨lw_p41, List.forall_mem_cons.mpr ⟨lw_p42, List.forall_mem_cons.mpr ⟨lw_p43, fun _ h => absurd h List.not_mem_nil⟩⟩⟩⟩⟩⟩⟩⟩⟩⟩⟩⟩
def lw_privs : List (MethodName × Nat) := lw_privs_1 ++ (lw_privs_2 ++ (lw_privs_3))
def lw_tbl : List Cond := k2_sels lw_privs ++ tables_1
theorem lw_privs_ok : ∀ q ∈ lw_privs, lw_okq q := by
  show ∀ q ∈ lw_privs_1 ++ (lw_privs_2 ++ (lw_privs_3)), lw_okq q
  exact List.forall_mem_append.mpr ⟨lw_r1, List.forall_mem_append.mpr ⟨lw_r2, lw_r3⟩⟩
-- ===== end of PART A; then your names; then what follows =====
end
section
/-! ===== BEGIN words of one list among another's, by their places ===== -/
theorem goodIn_r {big : List Cond} (ws : List Cond) (ps : List Nat) (hp : ws = ps.filterMap (fun i => big[i]?)) (h : ws.all goodWord = true) : GoodIn big ws := by
  intro w hw
  have h1 := List.all_eq_true.mp h w hw
  rw [hp] at hw
  obtain ⟨i, -, hi⟩ := List.mem_filterMap.mp hw
  have hm : w ∈ big := by first | exact List.mem_of_getElem? hi | exact List.getElem?_mem hi
  exact ⟨hm, good_of_word h1⟩
theorem goodIn_app {big a b : List Cond} (ha : GoodIn big a) (hb : GoodIn big b) : GoodIn big (a ++ b) := fun w h => (List.mem_append.mp h).elim (ha w) (hb w)
theorem goodIn_ca {big a b : List Cond} {c : Cond} (ha : GoodIn big (c :: a)) (hb : GoodIn big b) : GoodIn big (c :: (a ++ b)) := fun w h => (List.mem_cons.mp h).elim (fun e => ha w (List.mem_cons.mpr (Or.inl e))) (fun h => (List.mem_append.mp h).elim (fun h => ha w (List.mem_cons.mpr (Or.inr h))) (hb w))
theorem goodIn_sub {big ws : List Cond} (hm : ∀ w ∈ ws, w ∈ big) (h : ws.all goodWord = true) : GoodIn big ws := fun w hw => ⟨hm w hw, good_of_word (List.all_eq_true.mp h w hw)⟩
/-! ===== END ===== -/

/-! ===== BEGIN exceptions that leave a method, and their catching by the caller (launches without stack traces) ===== -/
section VXA
/-! The laws vx_back, vx_callV, vx_callS, vx_callSW, vx_throw0, vx_throwS follow proofs of the library, with one case more: JvmDerived/Free/Laws.lean (Back.of_free), Shelf42/LK1.lean (callV, callS), Shelf/KitTraced.lean (throwNew0V, throwNewS). -/
/-- where a method has thrown q: the class by its name, the cell, what was written, the world -/
def vx_T (XC : String → State → State → Prop) (st : State) (q : Addr) (t : State) (mc ms : Nat) (free : Addr → Prop) : Prop :=
  ∃ (E : String) (ce : Cell) (L : List Loc), XC E st t ∧ t.heap[q]? = some ce ∧ ce.vm = .none ∧ st.vm.findClass E = some ce.cls ∧ st.WarmedH t.vm ∧ st.sameButNew ({ t with vm := st.vm } : State) L mc ms ∧ ∀ z ∈ L, free z.base
def vx_Q (Qc : Array Value → State → Outcome → State → Prop) (XC : String → State → State → Prop) (mc ms : Nat) (free : Addr → Prop) : Array Value → State → Outcome → State → Prop := fun a st o t =>
  (Qc a st o t ∧ ∃ L, FrameEnd st o t L mc ms ∧ ∀ q ∈ L, free q.base) ∨ ∃ q, o = .threw q ∧ vx_T XC st q t mc ms free
/-- a callee that returns or throws -/
def vx_Met (l : Launch) (y : MethodName) (ws : List Cond) (rm : Room) (Pc : Array Value → State → Prop) (Qc : Array Value → State → Outcome → State → Prop) (XC : String → State → State → Prop) (mc ms : Nat) (free : Addr → Prop) : Prop :=
  MetFree l y (headSpec ws rm) Pc (fun _ _ _ _ _ => True) (vx_Q Qc XC mc ms free)
def vx_Post (XC : String → State → State → Prop) (mc ms : Nat) (free : Addr → Prop) : Pt → Array Value → Addr → Pt → Prop := fun A a q B =>
  ∃ (g : JFrame) (mk : MethodId) (t : State) (L : List Loc) (E : String) (ce : Cell), B.U.heap = t.heap ∧ B.U.vm = t.vm ∧ XC E (A.U.calling g mk a) t ∧ t.heap[q]? = some ce ∧ ce.vm = .none ∧ A.U.vm.findClass E = some ce.cls ∧ B.locs = A.locs ++ L ∧ (∀ z ∈ L, free z.base) ∧ B.cells = A.cells + mc ∧ B.slots = A.slots + ms
def vx_Back (l : Launch) (R : Room) (p : Program) (e : Env) (below : List Frame) (s : State) (sargs : Array Value) (y : MethodName) (len W9 : Nat)
    (Pre : Pt → Array Value → Prop) (Post : Pt → Array Value → Option Value → Pt → Prop) (PostX : Pt → Array Value → Addr → Pt → Prop) : Prop :=
  ∀ (m : MethodId) (meth : Method) (c : Code) (A : Pt) (g : JFrame) (ig : Instr) (mk : MethodId) (a : Array Value),
    Stand p l e R s m sargs below meth c A.U A.locs A.cells A.slots → g.method = m → g.locals.size = c.maxLocals → decode c.code g.pc = .ok (ig, len) →
    2 * g.monitorRoom + (g.stack.map fun v => v.category).sum ≤ W9 → A.U.methodNamed? y = some mk → Pre A a →
    (∃ (v : Option Value) (B : Pt), Stand p l e R s m sargs below meth c B.U B.locs B.cells B.slots ∧ Post A a v B ∧
      Steps p.tables e below (doInvoke e (A.U.setTop g) [] mk a).1 (B.U.setTop { g with pc := g.pc + len, stack := v.toList ++ g.stack })) ∨
    (∃ (q : Addr) (B : Pt), Stand p l e R s m sargs below meth c B.U B.locs B.cells B.slots ∧ PostX A a q B ∧
      Steps p.tables e below (doInvoke e (A.U.setTop g) [] mk a).1 ((B.U.setTop g).pushFrame (.throwing q)))
section Payer
variable {l : Launch} {R : Room} {p : Program} {e : Env} {below : List Frame} {s : State} {sargs : Array Value} {y : MethodName} {len W9 : Nat}
theorem vx_back {ws : List Cond} {rm : Room} {Pc : Array Value → State → Prop} {Qc : Array Value → State → Outcome → State → Prop} {XC : String → State → State → Prop} {mc ms : Nat} {free : Addr → Prop} {bytes : ByteArray} {maxL : Nat} {ret : Option FieldType}
    (hM : vx_Met l y ws rm Pc Qc XC mc ms free) (hblind : FrameBlind Pc) (hrc : rm.cells = mc) (hrs : rm.slots = ms)
    (hframes : rm.frames + 1 ≤ R.frames) (hlocals : W9 + (maxL + 11) + rm.locals ≤ R.locals)
    (hws : ∀ w ∈ ws, ∀ a' U, s.WarmedH U.vm → w.before a' U = true) (hcode : Cond.code y bytes maxL ret ∈ ws) (hinit : ∀ a' U, s.WarmedH U.vm → (Cond.initialized y.cls).before a' U = true) :
    vx_Back l R p e below s sargs y len W9 (PreOf R mc ms Pc) (PostOf Qc mc ms free) (vx_Post XC mc ms free) := by
  intro m meth c A g ig mk a X hg hsize hdg hW hn hp
  have h1 : (headSpec ws rm).pre.before a A.U = true := atoms_intro fun w hw => hws w hw _ _ X.warmed
  have h2 : (Cond.code y bytes maxL ret).before a A.U = true := hws _ hcode _ _ X.warmed
  have h3 : (Cond.initialized y.cls).before a A.U = true := hinit _ _ X.warmed
  have h4 : A.cells + (headSpec ws rm).room.cells ≤ R.cells := by rw [show (headSpec ws rm).room.cells = mc from hrc]; exact hp.1
  have h5 : A.slots + (headSpec ws rm).room.slots ≤ R.slots := by rw [show (headSpec ws rm).room.slots = ms from hrs]; exact hp.2.1
  have hPc : Pc a (A.U.calling g mk a) := hblind _ _ _ _ hp.2.2
  obtain ⟨U, Ls, c0, s0⟩ := A
  dsimp only [Pt.U, Pt.locs, Pt.cells, Pt.slots] at h1 h2 h3 h4 h5 X hn hPc ⊢
  obtain ⟨methY, cY, hmY, hcY, -, hlY, -, -, -, -⟩ := Cond.code_spec hn h2
  obtain ⟨kY, hkY, -⟩ := className_of_methodNamed hn
  have hinitY : kY.init = .initialized := Cond.initialized_spec (findClass_of_methodNamed hn) hkY h3
  have h : At U g.method c below := by rw [hg]; exact X.here
  have hlocals9 : W9 + (maxL + 11) + (headSpec ws rm).room.locals ≤ R.locals := hlocals
  have happ : (headSpec ws rm).appliesLoose y e.platform (U.calling g mk a) = true :=
    Spec.appliesLoose_calling (g := g) h hdg hn hkY hinitY
      (X.room_calling (g := g) (R' := (headSpec ws rm).room) hsize hmY hcY hframes (by rw [hlY]; omega) h4 h5) h1
  obtain ⟨mid, hmid⟩ := h.above
  have hfr : (U.setTop g).frames = (.java g :: mid) ++ below := by rw [State.frames_setTop' g h.top, hmid]; rfl
  obtain ⟨o, s₂, hsteps, -, hend, hq⟩ := Steps.callFree hM p X.admits X.cas X.clock (acts := []) hfr happ hPc trivial
  have hq' : vx_Q Qc XC mc ms free a (U.calling g mk a) o s₂ := hq
  rw [State.frames_setTop' g h.top] at hend
  obtain ⟨g₀, hg0⟩ := Option.isSome_iff_exists.mp h.top
  obtain ⟨r, hr⟩ := State.topJava?_eq_some.mp hg0
  have hr' : (({ U with heap := s₂.heap, slotsUsed := s₂.slotsUsed } : State).setVm s₂.vm).frames = .java g₀ :: r := hr
  rcases hq' with ⟨hqc, L, hfe, hL⟩ | ⟨q, rfl, E, ce, L, hx, hce, hcv, hcl, hW₂, hsm, hL⟩
  · obtain ⟨⟨v, rfl⟩, hW₂, e2, q2, q3, q4, q5, q6⟩ := id hfe
    have e3 : s₂ = ({ (U.calling g mk a).setFrames s₂.frames with heap := s₂.heap, slotsUsed := s₂.slotsUsed } : State).setVm s₂.vm := by
      have : s₂ = ({ s₂ with vm := (U.calling g mk a).vm } : State).setVm s₂.vm := rfl
      rw [e2] at this
      exact this
    obtain ⟨c₂, i₂, len₂, hc₂, hd₂, hf₂⟩ := hend
    have hW' : U.WarmedH s₂.vm := hW₂
    have hcc : c₂ = c := by
      have h1 : s₂.code? g.method = U.code? g.method := by
        rw [State.code?_eq, State.code?_eq, hW'.alike.method?]
      exact Option.some.inj (hc₂.symm.trans (h1.trans h.code))
    subst hcc
    have hlen : len₂ = len := by rw [hdg] at hd₂; cases hd₂; rfl
    subst hlen
    have hs₂ : s₂ = (({ U with heap := s₂.heap, slotsUsed := s₂.slotsUsed } : State).setVm s₂.vm).setTop { g with pc := g.pc + len₂, stack := v.toList ++ g.stack } := by
      refine e3.trans ?_
      rw [hf₂, State.calling_eq h.top, State.setFrames_setFrames, State.setTop_of_frames _ hr', hr]
      rfl
    have hsame : U.sameButNew ({ U with heap := s₂.heap, slotsUsed := s₂.slotsUsed } : State) L mc ms := by
      refine ⟨?_, q2, q3, q4, q5, q6⟩
      obtain ⟨t, ht, -⟩ := State.frames_cons hr
      show ({ U with heap := s₂.heap, slotsUsed := s₂.slotsUsed } : State) = { U.setFrames U.frames with heap := s₂.heap, slotsUsed := s₂.slotsUsed }
      rw [State.setFrames_self ht]
    subst hg
    refine Or.inl ⟨v, ⟨(({ U with heap := s₂.heap, slotsUsed := s₂.slotsUsed } : State).setVm s₂.vm), Ls ++ L, c0 + mc, s0 + ms⟩,
      ⟨X.admits, X.cas, X.clock, X.frames, X.room, X.hears, X.method, X.code, (X.here.setHeapUsed s₂.heap s₂.slotsUsed).setVm hW'.alike, X.tail, State.WarmedH.trans X.warmed hW', X.limits, X.bytes, X.same.trans (hsame.setVm s.vm)⟩,
      ⟨g, mk, s₂, L, rfl, rfl, hqc, rfl, hL, rfl, rfl⟩, ?_⟩
    show Steps p.tables e below _ ((({ U with heap := s₂.heap, slotsUsed := s₂.slotsUsed } : State).setVm s₂.vm).setTop { g with pc := g.pc + len₂, stack := v.toList ++ g.stack })
    rw [← hs₂]
    exact hsteps
  · obtain ⟨e2, q2, q3, q4, q5, q6⟩ := id hsm
    have e3 : s₂ = ({ (U.calling g mk a).setFrames s₂.frames with heap := s₂.heap, slotsUsed := s₂.slotsUsed } : State).setVm s₂.vm := by
      have : s₂ = ({ s₂ with vm := (U.calling g mk a).vm } : State).setVm s₂.vm := rfl
      rw [e2] at this
      exact this
    have hf₂ : s₂.frames = .throwing q :: .java g :: U.frames.tail := hend
    have hW' : U.WarmedH s₂.vm := hW₂
    have hs₂ : s₂ = ((({ U with heap := s₂.heap, slotsUsed := s₂.slotsUsed } : State).setVm s₂.vm).setTop g).pushFrame (.throwing q) := by
      refine e3.trans ?_
      rw [hf₂, State.calling_eq h.top, State.setFrames_setFrames, State.pushFrame, State.frames_setTop _ hr', State.setTop_of_frames _ hr', State.setFrames_setFrames, hr]
      rfl
    have hsame : U.sameButNew ({ U with heap := s₂.heap, slotsUsed := s₂.slotsUsed } : State) L mc ms := by
      refine ⟨?_, q2, q3, q4, q5, q6⟩
      obtain ⟨t, ht, -⟩ := State.frames_cons hr
      show ({ U with heap := s₂.heap, slotsUsed := s₂.slotsUsed } : State) = { U.setFrames U.frames with heap := s₂.heap, slotsUsed := s₂.slotsUsed }
      rw [State.setFrames_self ht]
    subst hg
    refine Or.inr ⟨q, ⟨(({ U with heap := s₂.heap, slotsUsed := s₂.slotsUsed } : State).setVm s₂.vm), Ls ++ L, c0 + mc, s0 + ms⟩,
      ⟨X.admits, X.cas, X.clock, X.frames, X.room, X.hears, X.method, X.code, (X.here.setHeapUsed s₂.heap s₂.slotsUsed).setVm hW'.alike, X.tail, State.WarmedH.trans X.warmed hW', X.limits, X.bytes, X.same.trans (hsame.setVm s.vm)⟩,
      ⟨g, mk, s₂, L, E, ce, rfl, rfl, hx, hce, hcv, hcl, rfl, hL, rfl, rfl⟩, ?_⟩
    show Steps p.tables e below _ (((({ U with heap := s₂.heap, slotsUsed := s₂.slotsUsed } : State).setVm s₂.vm).setTop g).pushFrame (.throwing q))
    rw [← hs₂]
    exact hsteps
end Payer
section Calls
variable {p : Program} {l : Launch} {e : Env} {R : Room} {s : State} {m : MethodId} {args : Array Value} {below : List Frame} {meth : Method} {c : Code} {T : State} {locs : List Loc} {cells slots : Nat}
theorem vx_callV (X : Stand p l e R s m args below meth c T locs cells slots) (hexec : p.tables.exec = Jvm.exec) {own C : String} {index : Nat} {y : MethodName} {bytes : ByteArray} {maxL : Nat} {ret : Option FieldType}
    (hown : s.vm.findClass own = some m.cls) (hlink : (Cond.methodLink own index y).before args s = true) (hinst : (Cond.instanceMethod y).before args s = true) (hsel : (Cond.selects C y y).before args s = true)
    (hcode : (Cond.code y bytes maxL ret).before args s = true) (hy : y.cls ≠ "java/lang/invoke/MethodHandle" ∧ y.cls ≠ "java/lang/invoke/VarHandle")
    {W9 : Nat} {Pre : Pt → Array Value → Prop} {Post : Pt → Array Value → Option Value → Pt → Prop} {PostX : Pt → Array Value → Addr → Pt → Prop} (hK : vx_Back l R p e below s args y 3 W9 Pre Post PostX)
    {b : Addr} {cellB : Cell} (hcell : T.heap[b]? = some cellB) (hobj : cellB.vm.isStatics = false) (hcls : s.vm.findClass C = some cellB.cls)
    {g : JFrame} (hg : g.method = m) (hsize : g.locals.size = c.maxLocals) {argsL rest : List Value} (hlen : ∀ sig, parseMethodDescriptor y.desc = some sig → argsL.length = sig.parameters.length)
    (hstack : g.stack = argsL.reverse ++ .ref b :: rest) (hW : 2 * g.monitorRoom + (rest.map fun v => v.category).sum ≤ W9) (hdg : decode c.code g.pc = .ok (.invokevirtual index, 3))
    (hpre : ∀ vm₁, s.WarmedH vm₁ → Pre ⟨T.setVm vm₁, locs, cells, slots⟩ (Value.ref b :: argsL).toArray) :
    (∃ (v : Option Value) (vm₁ : Vm) (B : Pt), s.WarmedH vm₁ ∧ Stand p l e R s m args below meth c B.U B.locs B.cells B.slots ∧ Post ⟨T.setVm vm₁, locs, cells, slots⟩ (Value.ref b :: argsL).toArray v B ∧
      ∀ target, Steps p.tables e below (B.U.setTop { g with pc := g.pc + 3, stack := v.toList ++ rest }) target → Steps p.tables e below (T.setTop g) target) ∨
    (∃ (q : Addr) (vm₁ : Vm) (B : Pt), s.WarmedH vm₁ ∧ Stand p l e R s m args below meth c B.U B.locs B.cells B.slots ∧ PostX ⟨T.setVm vm₁, locs, cells, slots⟩ (Value.ref b :: argsL).toArray q B ∧
      Steps p.tables e below (T.setTop g) ((B.U.setTop { g with stack := rest }).pushFrame (.throwing q))) := by
  obtain ⟨mk, methM, hnamed, hmethM, hstM, habM⟩ := Cond.instanceMethod_spec hinst
  obtain ⟨methM', cM, hmethM', -, -, -, -, -, -, hsigM⟩ := Cond.code_spec hnamed hcode
  cases hmethM.symm.trans hmethM'
  obtain ⟨c2, r2, m2, q1, q2, q3, q4, kP, hkP, hkPi⟩ := Cond.selects_spec hsel
  cases hcls.symm.trans q1
  cases (State.methodFound?_of_named hnamed hy).symm.trans q2
  cases hnamed.symm.trans q3
  have hselP : selectMethod e.platform s.vm cellB.cls mk = .method mk := by rw [Launch.admits_selectMethod X.admits]; exact q4
  obtain ⟨vm₁, X₁, hstep₁⟩ := X.invokevirtual hexec hown hlink hnamed hmethM hstM hkP hkPi hy (a := b) (cell := cellB) hcell
    (fun z h => by rw [h] at hobj; cases hobj) hselP hmethM habM hkP hkPi (g := g) hg (argsL := argsL) (rest := rest) (hlen _ hsigM) hstack hdg
  rcases hK m meth c ⟨T.setVm vm₁, locs, cells, slots⟩ { g with stack := rest } (.invokevirtual index) mk (Value.ref b :: argsL).toArray X₁ hg hsize hdg hW (X₁.named hnamed) (hpre vm₁ X₁.warmed) with ⟨v, B, X', hpost, hsteps⟩ | ⟨q, B, X', hpost, hsteps⟩
  · exact Or.inl ⟨v, vm₁, B, X₁.warmed, X', hpost, fun target h => hstep₁ _ fun acts => by rw [doInvoke_state]; exact hsteps.trans h⟩
  · exact Or.inr ⟨q, vm₁, B, X₁.warmed, X', hpost, hstep₁ _ fun acts => by rw [doInvoke_state]; exact hsteps⟩
theorem vx_callS (X : Stand p l e R s m args below meth c T locs cells slots) (hexec : p.tables.exec = Jvm.exec) {own : String} {index : Nat} {y : MethodName} {bytes : ByteArray} {maxL : Nat} {ret : Option FieldType}
    (hown : s.vm.findClass own = some m.cls) (hlink : (Cond.methodLink own index y).before args s = true) (hstat : (Cond.static y).before args s = true) (hinit : (Cond.initialized y.cls).before args s = true)
    (hcode : (Cond.code y bytes maxL ret).before args s = true) (hy : y.cls ≠ "java/lang/invoke/MethodHandle" ∧ y.cls ≠ "java/lang/invoke/VarHandle")
    {W9 : Nat} {Pre : Pt → Array Value → Prop} {Post : Pt → Array Value → Option Value → Pt → Prop} {PostX : Pt → Array Value → Addr → Pt → Prop} (hK : vx_Back l R p e below s args y 3 W9 Pre Post PostX)
    {g : JFrame} (hg : g.method = m) (hsize : g.locals.size = c.maxLocals) {argsL rest : List Value} (hlen : ∀ sig, parseMethodDescriptor y.desc = some sig → argsL.length = sig.parameters.length)
    (hstack : g.stack = argsL.reverse ++ rest) (hW : 2 * g.monitorRoom + (rest.map fun v => v.category).sum ≤ W9) (hdg : decode c.code g.pc = .ok (.invokestatic index, 3))
    (hpre : ∀ vm₁, s.WarmedH vm₁ → Pre ⟨T.setVm vm₁, locs, cells, slots⟩ argsL.toArray) :
    (∃ (v : Option Value) (vm₁ : Vm) (B : Pt), s.WarmedH vm₁ ∧ Stand p l e R s m args below meth c B.U B.locs B.cells B.slots ∧ Post ⟨T.setVm vm₁, locs, cells, slots⟩ argsL.toArray v B ∧
      ∀ target, Steps p.tables e below (B.U.setTop { g with pc := g.pc + 3, stack := v.toList ++ rest }) target → Steps p.tables e below (T.setTop g) target) ∨
    (∃ (q : Addr) (vm₁ : Vm) (B : Pt), s.WarmedH vm₁ ∧ Stand p l e R s m args below meth c B.U B.locs B.cells B.slots ∧ PostX ⟨T.setVm vm₁, locs, cells, slots⟩ argsL.toArray q B ∧
      Steps p.tables e below (T.setTop g) ((B.U.setTop { g with stack := rest }).pushFrame (.throwing q))) := by
  obtain ⟨mk, hnamed⟩ := Cond.code_named hcode
  obtain ⟨methM, cM, hmethM, -, -, -, -, -, -, hsigM⟩ := Cond.code_spec hnamed hcode
  have hstatic : methM.isStatic = true := Cond.static_spec hnamed hmethM hstat
  obtain ⟨kP, hkP, -⟩ := className_of_methodNamed hnamed
  have hinitP : kP.init = .initialized := Cond.initialized_spec (findClass_of_methodNamed hnamed) hkP hinit
  obtain ⟨vm₁, X₁, hstep₁⟩ := X.invokestatic hexec hown hlink hnamed hmethM hstatic hkP hinitP hy (g := g) hg (argsL := argsL) (rest := rest) (hlen _ hsigM) hstack hdg
  rcases hK m meth c ⟨T.setVm vm₁, locs, cells, slots⟩ { g with stack := rest } (.invokestatic index) mk argsL.toArray X₁ hg hsize hdg hW (X₁.named hnamed) (hpre vm₁ X₁.warmed) with ⟨v, B, X', hpost, hsteps⟩ | ⟨q, B, X', hpost, hsteps⟩
  · exact Or.inl ⟨v, vm₁, B, X₁.warmed, X', hpost, fun target h => hstep₁ _ fun acts => by rw [doInvoke_state]; exact hsteps.trans h⟩
  · exact Or.inr ⟨q, vm₁, B, X₁.warmed, X', hpost, hstep₁ _ fun acts => by rw [doInvoke_state]; exact hsteps⟩
end Calls
theorem vx_cls {s : State} {T : State} {vm₁ : Vm} {E : String} {k : ClassId} (hW : s.WarmedH vm₁) (h : (T.setVm vm₁).vm.findClass E = some k) : s.vm.findClass E = some k := by
  have h1 : vm₁.findClass E = some k := h
  rw [hW.alike.findClass] at h1
  exact h1
/-- the method's frame g, with q thrown over it -/
def vx_W (p : Program) (l : Launch) (e : Env) (R : Room) (s : State) (m : MethodId) (args : Array Value) (below : List Frame) (meth : Method) (c : Code) (H : Heap) (locs : List Loc) (cells slots : Nat) (Q : State → Prop) (g : JFrame) (q : Addr) : Prop :=
  ∀ T : State, T.heap = H → Stand p l e R s m args below meth c T locs cells slots → ∃ t, Steps p.tables e below ((T.setTop g).pushFrame (.throwing q)) t ∧ Q t
def vx_Run (p : Program) (l : Launch) (e : Env) (R : Room) (s : State) (m : MethodId) (args : Array Value) (below : List Frame) (meth : Method) (c : Code) (H : Heap) (locs : List Loc) (cells slots mc ms : Nat) (g : JFrame) (rest : List Value) (Qa : State → Outcome → State → Prop) (XC : String → State → State → Prop) (free : Addr → Prop) : Prop :=
  ∀ T : State, T.heap = H → Stand p l e R s m args below meth c T locs cells slots →
    (∃ (v : Option Value) (st₀ t T' : State) (L : List Loc), st₀.heap = H ∧ Stand p l e R s m args below meth c T' (locs ++ L) (cells + mc) (slots + ms) ∧ (∀ q ∈ L, free q.base) ∧ T'.heap = t.heap ∧ T'.vm = t.vm ∧ Qa st₀ (.returned v) t ∧
      Goes p e below T g T' { g with pc := g.pc + 3, stack := v.toList ++ rest }) ∨
    (∃ (q : Addr) (st₀ t T' : State) (L : List Loc) (E : String) (ce : Cell), st₀.heap = H ∧ Stand p l e R s m args below meth c T' (locs ++ L) (cells + mc) (slots + ms) ∧ (∀ z ∈ L, free z.base) ∧ T'.heap = t.heap ∧ T'.vm = t.vm ∧ XC E st₀ t ∧ t.heap[q]? = some ce ∧ ce.vm = .none ∧ s.vm.findClass E = some ce.cls ∧
      Steps p.tables e below (T.setTop g) ((T'.setTop { g with stack := rest }).pushFrame (.throwing q)))
def vx_X {S : Type} (px : S → Prop) (B : String → S → State → Prop) (A : Nat → Prop) : String → State → State → Prop := fun E st t => ∃ u : S, px u ∧ B E u t ∧ va_F A st t
section Runs
variable {p : Program} {l : Launch} {e : Env} {R : Room} {s : State} {m : MethodId} {args : Array Value} {below : List Frame} {meth : Method} {c : Code} {H : Heap} {locs : List Loc} {cells slots : Nat}
variable {y : MethodName} {bytes cc : ByteArray} {maxL nL mc ms n index : Nat} {ret : Option FieldType} {ws : List Cond} {rm : Room} {Pc : Array Value → State → Prop} {Qc : Array Value → State → Outcome → State → Prop} {XC : String → State → State → Prop} {free : Addr → Prop} {Ts : List Cond} {own C : String} {b : Addr} {As rest : List Value} {g : JFrame}
theorem vx_callBack (cb : CallB R s args own index y bytes maxL ret ws rm mc ms n) (hM : vx_Met l y ws rm Pc Qc XC mc ms free) (hbl : FrameBlind Pc) : vx_Back l R p e below s args y 3 8 (PreOf R mc ms Pc) (PostOf Qc mc ms free) (vx_Post XC mc ms free) := by
  obtain ⟨hrc, hrs, hfr, hlo, hws, hcw, -, hini, -⟩ := cb
  exact vx_back (bytes := bytes) (maxL := maxL) (ret := ret) hM hbl hrc hrs hfr hlo hws hcw (fun a' U hW => word_at hW (Or.inl (by first | rfl | simp [Cond.onTables, Cond.keeps, Cond.steady])) hini)
theorem vx_runV (S : CallFix p m c cc nL s args Ts own) (hM : vx_Met l y ws rm Pc Qc XC mc ms free) (cw : CallW R s args own C index y bytes maxL ret ws rm mc ms n) (hp : PreV s H C b Pc As)
    (hg : g.method = m) (hn : As.length = n) (hsize : g.locals.size = nL) (hstack : g.stack = As.reverse ++ .ref b :: rest) (hW : 2 * g.monitorRoom + (rest.map fun v => v.category).sum ≤ 8) (hdg : decode cc g.pc = .ok (.invokevirtual index, 3)) (hf : cells + mc ≤ R.cells ∧ slots + ms ≤ R.slots) :
    vx_Run p l e R s m args below meth c H locs cells slots mc ms g rest (Qc (Value.ref b :: As).toArray) XC free := by
  have hK : vx_Back l R p e below s args y 3 8 (PreOf R mc ms Pc) (PostOf Qc mc ms free) (vx_Post XC mc ms free) := vx_callBack cw.1 hM hp.1
  obtain ⟨⟨-, -, -, -, -, -, hcode, -, hy, hlen, hl⟩, hin, hse⟩ := cw
  obtain ⟨hx, hb, hml, ho, -⟩ := S
  obtain ⟨-, ⟨cellB, hcB, hoB, hclB⟩, hPc⟩ := hp
  intro T hT X
  rcases vx_callV X hx (C := C) (bytes := bytes) (maxL := maxL) (ret := ret) ho hl hin hse hcode hy hK (by rw [hT]; exact hcB) hoB hclB hg (hsize.trans hml.symm) (argsL := As) (rest := rest) (fun sig h => hn.trans (hlen sig h)) hstack hW (by rw [hb]; exact hdg)
    (fun vm₁ hW₁ => ⟨hf.1, hf.2, hPc (T.setVm vm₁) hT hW₁⟩) with ⟨v, vm₁, ⟨U', l2, c2, s2⟩, hW₁, X', ⟨g', mk, t, L, e1, e2, hq, h1, hL, h2, h3⟩, st⟩ | ⟨q, vm₁, ⟨U', l2, c2, s2⟩, hW₁, X', ⟨g', mk, t, L, E, ce, e1, e2, hq, hce, hcv, hcl, h1, hL, h2, h3⟩, st⟩
  · dsimp only [Pt.U, Pt.locs, Pt.cells, Pt.slots] at X' e1 e2 h1 h2 h3 st
    subst h1; subst h2; subst h3
    exact Or.inl ⟨v, (T.setVm vm₁).calling g' mk (Value.ref b :: As).toArray, t, U', L, hT, X', hL, e1, e2, hq, st⟩
  · dsimp only [Pt.U, Pt.locs, Pt.cells, Pt.slots] at X' e1 e2 h1 h2 h3 st hcl
    subst h1; subst h2; subst h3
    exact Or.inr ⟨q, (T.setVm vm₁).calling g' mk (Value.ref b :: As).toArray, t, U', L, E, ce, hT, X', hL, e1, e2, hq, hce, hcv, vx_cls hW₁ hcl, st⟩
theorem vx_runS (S : CallFix p m c cc nL s args Ts own) (hM : vx_Met l y ws rm Pc Qc XC mc ms free) (cw : CallB R s args own index y bytes maxL ret ws rm mc ms n ∧ (Cond.static y).before args s = true) (hp : PreS s H Pc As)
    (hg : g.method = m) (hn : As.length = n) (hsize : g.locals.size = nL) (hstack : g.stack = As.reverse ++ rest) (hW : 2 * g.monitorRoom + (rest.map fun v => v.category).sum ≤ 8) (hdg : decode cc g.pc = .ok (.invokestatic index, 3)) (hf : cells + mc ≤ R.cells ∧ slots + ms ≤ R.slots) :
    vx_Run p l e R s m args below meth c H locs cells slots mc ms g rest (Qc As.toArray) XC free := by
  have hK : vx_Back l R p e below s args y 3 8 (PreOf R mc ms Pc) (PostOf Qc mc ms free) (vx_Post XC mc ms free) := vx_callBack cw.1 hM hp.1
  obtain ⟨⟨-, -, -, -, -, -, hcode, hini, hy, hlen, hl⟩, hstt⟩ := cw
  obtain ⟨hx, hb, hml, ho, -⟩ := S
  intro T hT X
  rcases vx_callS X hx (bytes := bytes) (maxL := maxL) (ret := ret) ho hl hstt hini hcode hy hK hg (hsize.trans hml.symm) (argsL := As) (rest := rest) (fun sig h => hn.trans (hlen sig h)) hstack hW (by rw [hb]; exact hdg)
    (fun vm₁ hW₁ => ⟨hf.1, hf.2, hp.2 (T.setVm vm₁) hT hW₁⟩) with ⟨v, vm₁, ⟨U', l2, c2, s2⟩, hW₁, X', ⟨g', mk, t, L, e1, e2, hq, h1, hL, h2, h3⟩, st⟩ | ⟨q, vm₁, ⟨U', l2, c2, s2⟩, hW₁, X', ⟨g', mk, t, L, E, ce, e1, e2, hq, hce, hcv, hcl, h1, hL, h2, h3⟩, st⟩
  · dsimp only [Pt.U, Pt.locs, Pt.cells, Pt.slots] at X' e1 e2 h1 h2 h3 st
    subst h1; subst h2; subst h3
    exact Or.inl ⟨v, (T.setVm vm₁).calling g' mk As.toArray, t, U', L, hT, X', hL, e1, e2, hq, st⟩
  · dsimp only [Pt.U, Pt.locs, Pt.cells, Pt.slots] at X' e1 e2 h1 h2 h3 st hcl
    subst h1; subst h2; subst h3
    exact Or.inr ⟨q, (T.setVm vm₁).calling g' mk As.toArray, t, U', L, E, ce, hT, X', hL, e1, e2, hq, hce, hcv, vx_cls hW₁ hcl, st⟩
end Runs
section Rows
variable {p : Program} {l : Launch} {e : Env} {R : Room} {s : State} {m : MethodId} {args : Array Value} {below : List Frame} {meth : Method} {c : Code} {H : Heap} {locs : List Loc} {cells slots : Nat} {Q : State → Prop}
variable {mc ms : Nat} {free : Addr → Prop} {A0 A1 : Nat → Prop} {H0 : Heap} {a : Array Value} {pc : Nat} {ls : Array Slot} {st0 rest : List Value}
theorem vx_keep {st₀ t T' : State} {L : List Loc} (h0 : st₀.heap = H) (e1 : T'.heap = t.heap) (hS : va_S A0 H0 H locs) (hA : ∀ q, q < H.size → A1 q → A0 q) (hf : ∀ q, free q → A0 q) (hL : ∀ q ∈ L, free q.base) (hF : va_F A1 st₀ t) :
    H.size ≤ T'.heap.size ∧ (∀ q : Nat, q < H.size → ¬ A1 q → T'.heap[q]? = H[q]?) ∧ va_S A0 H0 T'.heap (locs ++ L) := by
  obtain ⟨hz, hk⟩ := hF
  rw [h0] at hz hk
  exact ⟨by rw [e1]; exact hz, fun q h1 h2 => by rw [e1]; exact hk q h1 h2,
    ⟨Nat.le_trans hS.1 (by rw [e1]; exact hz), fun q h1 h2 => by rw [e1, hk q (Nat.lt_of_lt_of_le h1 hS.1) (fun z => h2 (hA q (Nat.lt_of_lt_of_le h1 hS.1) z))]; exact hS.2.1 q h1 h2, fun q hq => by
      rcases List.mem_append.mp hq with h | h
      · exact hS.2.2 q h
      · exact hf _ (hL q h)⟩⟩
theorem vx_calli {S SX : Type} {post : Int32 → S → Prop} {px : SX → Prop} {B : S → State → Prop} {BX : String → SX → State → Prop} {AX : Nat → Prop} (hr : vx_Run p l e R s m args below meth c H locs cells slots mc ms (F0 m pc ls st0) rest (va_Qi post B A1 a) (vx_X px BX AX) free) (hS : va_S A0 H0 H locs) (hA : ∀ q, q < H.size → A1 q → A0 q) (hf : ∀ q, free q → A0 q) (hAX : ∀ q, q < H.size → AX q → A0 q)
    (kx : ∀ (E : String) (ce : Cell) (q9 : Addr) (u : SX) (t : State) (H1 : Heap) (locs1 : List Loc), t.heap = H1 → s.vm.Alike t.vm → px u → BX E u t → H.size ≤ H1.size → (∀ q : Nat, q < H.size → ¬ AX q → H1[q]? = H[q]?) → va_S A0 H0 H1 locs1 → H1[q9]? = some ce → ce.vm = .none → s.vm.findClass E = some ce.cls → vx_W p l e R s m args below meth c H1 locs1 (cells + mc) (slots + ms) Q (F0 m pc ls rest) q9)
    (kk : ∀ (r : Int32) (u : S) (t : State) (H1 : Heap) (locs1 : List Loc), t.heap = H1 → s.vm.Alike t.vm → post r u → B u t → H.size ≤ H1.size → (∀ q : Nat, q < H.size → ¬ A1 q → H1[q]? = H[q]?) → va_S A0 H0 H1 locs1 → W p l e R s m args below meth c H1 locs1 (cells + mc) (slots + ms) Q (F0 m (pc + 3) ls (.int r :: rest))) : W p l e R s m args below meth c H locs cells slots Q (F0 m pc ls st0) := by
  intro T hT X
  rcases hr T hT X with ⟨v, st₀, t, T', L, h0, X', hL, e1, e2, ⟨⟨r, u, hv, hp, hb⟩, hF⟩, st⟩ | ⟨q, st₀, t, T', L, E, ce, h0, X', hL, e1, e2, ⟨u, hp, hb, hF⟩, hce, hcv, hcl, st⟩
  · cases hv
    obtain ⟨k1, k2, k3⟩ := vx_keep h0 e1 hS hA hf hL hF
    obtain ⟨t2, a1, b1⟩ := kk r u t T'.heap (locs ++ L) e1.symm (by rw [← e2]; exact X'.warmed.alike) hp hb k1 k2 k3 T' rfl X'
    exact ⟨t2, st t2 a1, b1⟩
  · obtain ⟨k1, k2, k3⟩ := vx_keep h0 e1 hS hAX hf hL hF
    obtain ⟨t2, a1, b1⟩ := kx E ce q u t T'.heap (locs ++ L) e1.symm (by rw [← e2]; exact X'.warmed.alike) hp hb k1 k2 k3 (by rw [e1]; exact hce) hcv hcl T' rfl X'
    exact ⟨t2, st.trans a1, b1⟩
theorem vx_calll {S SX : Type} {post : Int64 → S → Prop} {px : SX → Prop} {B : S → State → Prop} {BX : String → SX → State → Prop} {AX : Nat → Prop} (hr : vx_Run p l e R s m args below meth c H locs cells slots mc ms (F0 m pc ls st0) rest (va_Ql post B A1 a) (vx_X px BX AX) free) (hS : va_S A0 H0 H locs) (hA : ∀ q, q < H.size → A1 q → A0 q) (hf : ∀ q, free q → A0 q) (hAX : ∀ q, q < H.size → AX q → A0 q)
    (kx : ∀ (E : String) (ce : Cell) (q9 : Addr) (u : SX) (t : State) (H1 : Heap) (locs1 : List Loc), t.heap = H1 → s.vm.Alike t.vm → px u → BX E u t → H.size ≤ H1.size → (∀ q : Nat, q < H.size → ¬ AX q → H1[q]? = H[q]?) → va_S A0 H0 H1 locs1 → H1[q9]? = some ce → ce.vm = .none → s.vm.findClass E = some ce.cls → vx_W p l e R s m args below meth c H1 locs1 (cells + mc) (slots + ms) Q (F0 m pc ls rest) q9)
    (kk : ∀ (r : Int64) (u : S) (t : State) (H1 : Heap) (locs1 : List Loc), t.heap = H1 → s.vm.Alike t.vm → post r u → B u t → H.size ≤ H1.size → (∀ q : Nat, q < H.size → ¬ A1 q → H1[q]? = H[q]?) → va_S A0 H0 H1 locs1 → W p l e R s m args below meth c H1 locs1 (cells + mc) (slots + ms) Q (F0 m (pc + 3) ls (.long r :: rest))) : W p l e R s m args below meth c H locs cells slots Q (F0 m pc ls st0) := by
  intro T hT X
  rcases hr T hT X with ⟨v, st₀, t, T', L, h0, X', hL, e1, e2, ⟨⟨r, u, hv, hp, hb⟩, hF⟩, st⟩ | ⟨q, st₀, t, T', L, E, ce, h0, X', hL, e1, e2, ⟨u, hp, hb, hF⟩, hce, hcv, hcl, st⟩
  · cases hv
    obtain ⟨k1, k2, k3⟩ := vx_keep h0 e1 hS hA hf hL hF
    obtain ⟨t2, a1, b1⟩ := kk r u t T'.heap (locs ++ L) e1.symm (by rw [← e2]; exact X'.warmed.alike) hp hb k1 k2 k3 T' rfl X'
    exact ⟨t2, st t2 a1, b1⟩
  · obtain ⟨k1, k2, k3⟩ := vx_keep h0 e1 hS hAX hf hL hF
    obtain ⟨t2, a1, b1⟩ := kx E ce q u t T'.heap (locs ++ L) e1.symm (by rw [← e2]; exact X'.warmed.alike) hp hb k1 k2 k3 (by rw [e1]; exact hce) hcv hcl T' rfl X'
    exact ⟨t2, st.trans a1, b1⟩
theorem vx_callf {S SX : Type} {post : UInt32 → S → Prop} {px : SX → Prop} {B : S → State → Prop} {BX : String → SX → State → Prop} {AX : Nat → Prop} (hr : vx_Run p l e R s m args below meth c H locs cells slots mc ms (F0 m pc ls st0) rest (va_Qf post B A1 a) (vx_X px BX AX) free) (hS : va_S A0 H0 H locs) (hA : ∀ q, q < H.size → A1 q → A0 q) (hf : ∀ q, free q → A0 q) (hAX : ∀ q, q < H.size → AX q → A0 q)
    (kx : ∀ (E : String) (ce : Cell) (q9 : Addr) (u : SX) (t : State) (H1 : Heap) (locs1 : List Loc), t.heap = H1 → s.vm.Alike t.vm → px u → BX E u t → H.size ≤ H1.size → (∀ q : Nat, q < H.size → ¬ AX q → H1[q]? = H[q]?) → va_S A0 H0 H1 locs1 → H1[q9]? = some ce → ce.vm = .none → s.vm.findClass E = some ce.cls → vx_W p l e R s m args below meth c H1 locs1 (cells + mc) (slots + ms) Q (F0 m pc ls rest) q9)
    (kk : ∀ (r : UInt32) (u : S) (t : State) (H1 : Heap) (locs1 : List Loc), t.heap = H1 → s.vm.Alike t.vm → post r u → B u t → H.size ≤ H1.size → (∀ q : Nat, q < H.size → ¬ A1 q → H1[q]? = H[q]?) → va_S A0 H0 H1 locs1 → W p l e R s m args below meth c H1 locs1 (cells + mc) (slots + ms) Q (F0 m (pc + 3) ls (.float r :: rest))) : W p l e R s m args below meth c H locs cells slots Q (F0 m pc ls st0) := by
  intro T hT X
  rcases hr T hT X with ⟨v, st₀, t, T', L, h0, X', hL, e1, e2, ⟨⟨r, u, hv, hp, hb⟩, hF⟩, st⟩ | ⟨q, st₀, t, T', L, E, ce, h0, X', hL, e1, e2, ⟨u, hp, hb, hF⟩, hce, hcv, hcl, st⟩
  · cases hv
    obtain ⟨k1, k2, k3⟩ := vx_keep h0 e1 hS hA hf hL hF
    obtain ⟨t2, a1, b1⟩ := kk r u t T'.heap (locs ++ L) e1.symm (by rw [← e2]; exact X'.warmed.alike) hp hb k1 k2 k3 T' rfl X'
    exact ⟨t2, st t2 a1, b1⟩
  · obtain ⟨k1, k2, k3⟩ := vx_keep h0 e1 hS hAX hf hL hF
    obtain ⟨t2, a1, b1⟩ := kx E ce q u t T'.heap (locs ++ L) e1.symm (by rw [← e2]; exact X'.warmed.alike) hp hb k1 k2 k3 (by rw [e1]; exact hce) hcv hcl T' rfl X'
    exact ⟨t2, st.trans a1, b1⟩
theorem vx_calld {S SX : Type} {post : UInt64 → S → Prop} {px : SX → Prop} {B : S → State → Prop} {BX : String → SX → State → Prop} {AX : Nat → Prop} (hr : vx_Run p l e R s m args below meth c H locs cells slots mc ms (F0 m pc ls st0) rest (va_Qd post B A1 a) (vx_X px BX AX) free) (hS : va_S A0 H0 H locs) (hA : ∀ q, q < H.size → A1 q → A0 q) (hf : ∀ q, free q → A0 q) (hAX : ∀ q, q < H.size → AX q → A0 q)
    (kx : ∀ (E : String) (ce : Cell) (q9 : Addr) (u : SX) (t : State) (H1 : Heap) (locs1 : List Loc), t.heap = H1 → s.vm.Alike t.vm → px u → BX E u t → H.size ≤ H1.size → (∀ q : Nat, q < H.size → ¬ AX q → H1[q]? = H[q]?) → va_S A0 H0 H1 locs1 → H1[q9]? = some ce → ce.vm = .none → s.vm.findClass E = some ce.cls → vx_W p l e R s m args below meth c H1 locs1 (cells + mc) (slots + ms) Q (F0 m pc ls rest) q9)
    (kk : ∀ (r : UInt64) (u : S) (t : State) (H1 : Heap) (locs1 : List Loc), t.heap = H1 → s.vm.Alike t.vm → post r u → B u t → H.size ≤ H1.size → (∀ q : Nat, q < H.size → ¬ A1 q → H1[q]? = H[q]?) → va_S A0 H0 H1 locs1 → W p l e R s m args below meth c H1 locs1 (cells + mc) (slots + ms) Q (F0 m (pc + 3) ls (.double r :: rest))) : W p l e R s m args below meth c H locs cells slots Q (F0 m pc ls st0) := by
  intro T hT X
  rcases hr T hT X with ⟨v, st₀, t, T', L, h0, X', hL, e1, e2, ⟨⟨r, u, hv, hp, hb⟩, hF⟩, st⟩ | ⟨q, st₀, t, T', L, E, ce, h0, X', hL, e1, e2, ⟨u, hp, hb, hF⟩, hce, hcv, hcl, st⟩
  · cases hv
    obtain ⟨k1, k2, k3⟩ := vx_keep h0 e1 hS hA hf hL hF
    obtain ⟨t2, a1, b1⟩ := kk r u t T'.heap (locs ++ L) e1.symm (by rw [← e2]; exact X'.warmed.alike) hp hb k1 k2 k3 T' rfl X'
    exact ⟨t2, st t2 a1, b1⟩
  · obtain ⟨k1, k2, k3⟩ := vx_keep h0 e1 hS hAX hf hL hF
    obtain ⟨t2, a1, b1⟩ := kx E ce q u t T'.heap (locs ++ L) e1.symm (by rw [← e2]; exact X'.warmed.alike) hp hb k1 k2 k3 (by rw [e1]; exact hce) hcv hcl T' rfl X'
    exact ⟨t2, st.trans a1, b1⟩
theorem vx_callv {S SX : Type} {post : S → Prop} {px : SX → Prop} {B : S → State → Prop} {BX : String → SX → State → Prop} {AX : Nat → Prop} (hr : vx_Run p l e R s m args below meth c H locs cells slots mc ms (F0 m pc ls st0) rest (va_Qv post B A1 a) (vx_X px BX AX) free) (hS : va_S A0 H0 H locs) (hA : ∀ q, q < H.size → A1 q → A0 q) (hf : ∀ q, free q → A0 q) (hAX : ∀ q, q < H.size → AX q → A0 q)
    (kx : ∀ (E : String) (ce : Cell) (q9 : Addr) (u : SX) (t : State) (H1 : Heap) (locs1 : List Loc), t.heap = H1 → s.vm.Alike t.vm → px u → BX E u t → H.size ≤ H1.size → (∀ q : Nat, q < H.size → ¬ AX q → H1[q]? = H[q]?) → va_S A0 H0 H1 locs1 → H1[q9]? = some ce → ce.vm = .none → s.vm.findClass E = some ce.cls → vx_W p l e R s m args below meth c H1 locs1 (cells + mc) (slots + ms) Q (F0 m pc ls rest) q9)
    (kk : ∀ (u : S) (t : State) (H1 : Heap) (locs1 : List Loc), t.heap = H1 → s.vm.Alike t.vm → post u → B u t → H.size ≤ H1.size → (∀ q : Nat, q < H.size → ¬ A1 q → H1[q]? = H[q]?) → va_S A0 H0 H1 locs1 → W p l e R s m args below meth c H1 locs1 (cells + mc) (slots + ms) Q (F0 m (pc + 3) ls (rest))) : W p l e R s m args below meth c H locs cells slots Q (F0 m pc ls st0) := by
  intro T hT X
  rcases hr T hT X with ⟨v, st₀, t, T', L, h0, X', hL, e1, e2, ⟨⟨u, hv, hp, hb⟩, hF⟩, st⟩ | ⟨q, st₀, t, T', L, E, ce, h0, X', hL, e1, e2, ⟨u, hp, hb, hF⟩, hce, hcv, hcl, st⟩
  · cases hv
    obtain ⟨k1, k2, k3⟩ := vx_keep h0 e1 hS hA hf hL hF
    obtain ⟨t2, a1, b1⟩ := kk u t T'.heap (locs ++ L) e1.symm (by rw [← e2]; exact X'.warmed.alike) hp hb k1 k2 k3 T' rfl X'
    exact ⟨t2, st t2 a1, b1⟩
  · obtain ⟨k1, k2, k3⟩ := vx_keep h0 e1 hS hAX hf hL hF
    obtain ⟨t2, a1, b1⟩ := kx E ce q u t T'.heap (locs ++ L) e1.symm (by rw [← e2]; exact X'.warmed.alike) hp hb k1 k2 k3 (by rw [e1]; exact hce) hcv hcl T' rfl X'
    exact ⟨t2, st.trans a1, b1⟩
/-- caught by the row x of this method's table; the rows ahead don't take it -/
theorem vx_catch {own name : String} {E : String} {ce : Cell} {q : Addr} (hown : s.vm.findClass own = some m.cls) (pre : List ExceptionTableEntry) (x : ExceptionTableEntry) (suf : List ExceptionTableEntry) (hsplit : c.exceptionTable.toList = pre ++ x :: suf)
    (hpass : ∀ z ∈ pre, covers z pc = false ∨ (z.catchType ≠ 0 ∧ ∃ nm : String, (Cond.classLink own z.catchType nm).before args s = true ∧ va_Nc E nm s)) (hx : covers x pc = true) (h0 : x.catchType ≠ 0)
    (hlink : (Cond.classLink own x.catchType name).before args s = true) (hcast : (Cond.castable E name).before args s = true) (hcell : H[q]? = some ce) (hv : ce.vm = .none) (hcl : s.vm.findClass E = some ce.cls)
    (kk : W p l e R s m args below meth c H locs cells slots Q (F0 m x.handlerPc ls [.ref q])) : vx_W p l e R s m args below meth c H locs cells slots Q (F0 m pc ls rest) q := by
  intro T hT X
  have hpl : e.platform.magicAccessors = ({} : Platform).magicAccessors := by rw [X.admits.platform]
  obtain ⟨c3, c4, hc3, hc4, hasg⟩ := Cond.castable_spec hcast
  cases Option.some.inj (hc3.symm.trans hcl)
  obtain ⟨c5, hc5, hcl5⟩ := Cond.classLink_spec hown hlink e.platform hpl
  cases Option.some.inj (hc4.symm.trans hc5)
  obtain ⟨vm', X', st⟩ := X.thenCaughtThrough q (g := F0 m pc ls rest) rfl (Steps.refl _) (by rw [hT]; exact hcell) (by rw [hv]; rfl) (by obtain ⟨k9, h9, -⟩ := Vm.findClass_spec hcl; exact ⟨k9, h9⟩) pre x suf hsplit
    (fun z hz => by
      rcases hpass z hz with h | ⟨hz0, nm, hl1, hn1⟩
      · exact Or.inl h
      · obtain ⟨c6, hc6, hcl6⟩ := Cond.classLink_spec hown hl1 e.platform hpl
        obtain ⟨a8, b8, h1, h2, h3⟩ := hn1
        cases Option.some.inj (h1.symm.trans hcl)
        cases Option.some.inj (h2.symm.trans hc6)
        exact Or.inr ⟨hz0, _, hcl6, h3⟩) hx (Or.inr ⟨h0, c4, hcl5, hasg⟩)
  obtain ⟨t, a1, b1⟩ := kk (T.setVm vm') hT X'
  exact ⟨t, st.trans a1, b1⟩
end Rows
section Ends
variable {p : Program} {l : Launch} {e : Env} {R : Room} {s : State} {m : MethodId} {args : Array Value} {below : List Frame} {meth : Method} {c : Code} {H : Heap} {locs : List Loc} {cells slots : Nat} {Q : State → Prop}
variable {mc ms : Nat} {free : Addr → Prop} {A0 A1 : Nat → Prop} {H0 : Heap} {a : Array Value} {ls : Array Slot} {st0 rest : List Value}
variable {Qc : Array Value → State → Outcome → State → Prop} {XC : String → State → State → Prop}
/-- what a body that may throw owes at its end -/
def vx_MQ (below : List Frame) (Qc : Array Value → State → Outcome → State → Prop) (XC : String → State → State → Prop) (a : Array Value) (s : State) (mc ms : Nat) (free : Addr → Prop) : State → Prop := fun t =>
  ∃ o, t.status = .running ∧ Ended t below o ∧ vx_Q Qc XC mc ms free a s o t
theorem vx_ret {g : JFrame} {mc ms : Nat} (k : W p l e R s m args below meth c H locs cells slots (MQ below Qc args s mc ms free) g) : W p l e R s m args below meth c H locs cells slots (vx_MQ below Qc XC args s mc ms free) g := by
  intro T hT X
  obtain ⟨t, a1, o, b1, b2, b3, b4⟩ := k T hT X
  exact ⟨t, a1, o, b1, b2, Or.inl ⟨b3, b4⟩⟩
/-- not caught here: it goes on to the caller -/
theorem vx_widen {g : JFrame} {q : Addr} {k n : Nat} (h1 : cells ≤ k) (h2 : slots ≤ n) (kk : vx_W p l e R s m args below meth c H locs k n Q g q) : vx_W p l e R s m args below meth c H locs cells slots Q g q := fun T hT X => kk T hT (stand_widen X h1 h2)
theorem vx_out {pc : Nat} {E : String} {ce : Cell} {q : Addr} {mc ms : Nat} (hout : ∀ x ∈ c.exceptionTable.toList, covers x pc = false) (hlocks : meth.locks = false) (hcell : H[q]? = some ce) (hv : ce.vm = .none) (hcl : s.vm.findClass E = some ce.cls)
    (hx : ∀ t : State, t.heap = H → s.vm.Alike t.vm → XC E s t) (hf : ∀ z ∈ locs, free z.base) (hc : cells ≤ mc) (hs : slots ≤ ms) :
    vx_W p l e R s m args below meth c H locs cells slots (vx_MQ below Qc XC args s mc ms free) (F0 m pc ls rest) q := by
  intro T hT X
  obtain ⟨st1, hrun, hend, hW, hsm⟩ := X.leaveThrown q (g := F0 m pc ls rest) rfl rfl rfl hout hlocks
  have hcell9 : (T.setFrames (.throwing q :: below)).heap[q]? = some ce := by
    show T.heap[q]? = some ce
    rw [hT]; exact hcell
  exact ⟨_, st1, .threw q, hrun, hend, Or.inr ⟨q, rfl, E, ce, locs, hx _ hT hW.alike, hcell9, hv, hcl, hW, hsm.mono hc hs, hf⟩⟩
theorem vx_frame {U : State} {k n : Nat} (h : s.sameButNew ({ U with vm := s.vm } : State) locs k n) : s.heap.size ≤ U.heap.size ∧ ∀ q : Nat, q < s.heap.size → (∀ z ∈ locs, z.base ≠ q) → U.heap[q]? = s.heap[q]? := by
  obtain ⟨-, h2, -, -, -, h6⟩ := h
  refine ⟨h2, fun q hq hz => ?_⟩
  obtain ⟨c9, e1, e2, e3, e4⟩ := h6 q _ (Array.getElem?_eq_getElem hq)
  have hs : c9.slots = (s.heap[q]).slots := Array.ext_getElem? fun i => e4 i fun hm => hz _ hm rfl
  have h9 : c9 = s.heap[q] := by
    rw [hs] at e2
    exact e2
  have e5 : U.heap[q]? = some c9 := e1
  rw [e5, h9, Array.getElem?_eq_getElem hq]
/-- the words of a throw but the four that speak of the heap -/
def vx_no (w : Cond) : Bool := decide (w ≠ .isRef (.static Bundle.tN "UNASSIGNED_STACK" Bundle.steD)) && decide (w ≠ .isRef (.static Bundle.tN "SUPPRESSED_SENTINEL" Bundle.listD)) && decide (w ≠ .laysStatic Bundle.tN "UNASSIGNED_STACK" Bundle.steD) && decide (w ≠ .laysStatic Bundle.tN "SUPPRESSED_SENTINEL" Bundle.listD)
def vx_at0 (own : String) (ic : Nat) (X : String) (names : List String) : List Cond := (Bundle.ownAtoms0 own ic X names).filter vx_no
def vx_atS (own : String) (ic : Nat) (X : String) (names : List String) : List Cond := (Bundle.ownAtoms own ic X names).filter vx_no
/-- a word that the tables alone decide, or a good one -/
def vx_ot (w : Cond) : Bool := w.onTables || goodWord w
theorem vx_ot_at {args a' : Array Value} {s U : State} {w : Cond} (hW : s.WarmedH U.vm) (hvm : s.vm = U.vm) (hg : vx_ot w = true) (h : w.before args s = true) : w.before a' U = true := by
  simp only [vx_ot, Bool.or_eq_true] at hg
  rcases hg with hg | hg
  · exact va_tabs hg hvm h
  · exact word_at hW (good_of_word hg) h
/-- a list's words: the good ones out of the method's own list, the others by premises of their own -/
theorem vx_hat {args : Array Value} {s : State} {L B : List Cond} (h1 : ∀ w ∈ L.filter goodWord, w.before args s = true) (h2 : ∀ w ∈ L.filter (fun w => !goodWord w), w ∈ B) (h3 : ∀ w ∈ B, w.before args s = true) : ∀ w ∈ L, w.before args s = true := by
  intro w hw
  by_cases g : goodWord w = true
  · exact h1 w (List.mem_filter.mpr ⟨hw, g⟩)
  · refine h3 w (h2 w (List.mem_filter.mpr ⟨hw, ?_⟩))
    show (!goodWord w) = true
    cases hgw : goodWord w
    · rfl
    · exact absurd hgw g
theorem vx_c {args : Array Value} {s : State} {w : Cond} {B : List Cond} (h : w.before args s = true) (t : ∀ w ∈ B, w.before args s = true) : ∀ w' ∈ w :: B, w'.before args s = true := fun w' h' => (List.mem_cons.mp h').elim (fun e => by rw [e]; exact h) (t w')
theorem vx_n {args : Array Value} {s : State} : ∀ w ∈ ([] : List Cond), w.before args s = true := fun _ h => nomatch h
theorem vx_own {args : Array Value} {s : State} {L : List Cond} (h1 : ∀ w ∈ L.filter vx_no, w.before args s = true)
    (hU : (Cond.isRef (.static Bundle.tN "UNASSIGNED_STACK" Bundle.steD)).before args s = true) (hN : (Cond.isRef (.static Bundle.tN "SUPPRESSED_SENTINEL" Bundle.listD)).before args s = true)
    (lU : (Cond.laysStatic Bundle.tN "UNASSIGNED_STACK" Bundle.steD).before args s = true) (lN : (Cond.laysStatic Bundle.tN "SUPPRESSED_SENTINEL" Bundle.listD).before args s = true) : ∀ w ∈ L, w.before args s = true := by
  intro w hw
  by_cases e1 : w = .isRef (.static Bundle.tN "UNASSIGNED_STACK" Bundle.steD)
  · rw [e1]; exact hU
  · by_cases e2 : w = .isRef (.static Bundle.tN "SUPPRESSED_SENTINEL" Bundle.listD)
    · rw [e2]; exact hN
    · by_cases e3 : w = .laysStatic Bundle.tN "UNASSIGNED_STACK" Bundle.steD
      · rw [e3]; exact lU
      · by_cases e4 : w = .laysStatic Bundle.tN "SUPPRESSED_SENTINEL" Bundle.listD
        · rw [e4]; exact lN
        · exact h1 w (List.mem_filter.mpr ⟨hw, by unfold vx_no; rw [decide_eq_true e1, decide_eq_true e2, decide_eq_true e3, decide_eq_true e4]; rfl⟩)
/-- where a static field lies, its class's statics cell in H -/
def vx_L (C n d : String) (A : Nat → Prop) (U : State) (H : Heap) : Prop := ∃ (c : ClassId) (k : Class) (i : Nat) (f : Field) (a : Nat) (cell : Cell), U.vm.findClass C = some c ∧ U.fieldFound? C n d = some (c, k, i, f) ∧ f.isStatic = true ∧ k.statics = some a ∧ H[a]? = some cell ∧ cell.vm.isStatics = true ∧ cell.cls = c ∧ f.slot < cell.slots.size ∧ k.staticTypes[f.slot]? = some f.type ∧ ¬ A a
theorem vx_L.moved {C n d : String} {A : Nat → Prop} {u U : State} {H : Heap} (hvm : u.vm.Alike U.vm) (h : vx_L C n d A u H) : vx_L C n d A U H := by
  obtain ⟨c, k, i, f, a, cell, h1, h2, h3, h4, h5, h6, h7, h8, h9, h10⟩ := h
  obtain ⟨k', hi', he⟩ := State.fieldFound?_setVm hvm h2
  exact ⟨c, k', i, f, a, cell, by rw [hvm.findClass]; exact h1, hi', h3, by rw [he]; exact h4, h5, h6, h7, h8, by rw [he]; exact h9, h10⟩
theorem vx_L.kept {C n d : String} {A : Nat → Prop} {U : State} {H H1 : Heap} (h : vx_L C n d A U H) (hq : ∀ a : Nat, a < H.size → ¬ A a → H1[a]? = H[a]?) : vx_L C n d A U H1 := by
  obtain ⟨c, k, i, f, a, cell, h1, h2, h3, h4, h5, h6, h7, h8, h9, h10⟩ := h
  exact ⟨c, k, i, f, a, cell, h1, h2, h3, h4, by rw [hq a (Array.getElem?_eq_some_iff.mp h5).1 h10]; exact h5, h6, h7, h8, h9, h10⟩
theorem vx_L.narrow {C n d : String} {A B : Nat → Prop} {U : State} {H : Heap} (h : vx_L C n d A U H) (hAB : ∀ q, B q → A q) : vx_L C n d B U H := by
  obtain ⟨c, k, i, f, a, cell, h1, h2, h3, h4, h5, h6, h7, h8, h9, h10⟩ := h
  exact ⟨c, k, i, f, a, cell, h1, h2, h3, h4, h5, h6, h7, h8, h9, fun z => h10 (hAB _ z)⟩
theorem vx_L.word {C n d : String} {A : Nat → Prop} {s : State} {args : Array Value} (h : vx_L C n d A s s.heap) : (Cond.laysStatic C n d).before args s = true := by
  obtain ⟨c, k, i, f, a, cell, h1, h2, h3, h4, h5, h6, h7, h8, h9, -⟩ := h
  show (Cond.laysStatic C n d).holds args s none s [] = true
  exact Cond.laysStatic_of h1 h2 h3 h4 h5 h6 h7 h8 h9
/-- .. and what it holds: null or some reference -/
def vx_Zq (C n d : String) (A : Nat → Prop) (U : State) (H : Heap) : Prop := va_Zq C n d A U H ∧ vx_L C n d A U H
theorem vx_Zq.moved {C n d : String} {A : Nat → Prop} {u U : State} {H : Heap} (hvm : u.vm.Alike U.vm) (h : vx_Zq C n d A u H) : vx_Zq C n d A U H := ⟨va_Zq.moved hvm h.1, vx_L.moved hvm h.2⟩
theorem vx_Zq.kept {C n d : String} {A : Nat → Prop} {U : State} {H H1 : Heap} (h : vx_Zq C n d A U H) (hq : ∀ a : Nat, a < H.size → ¬ A a → H1[a]? = H[a]?) : vx_Zq C n d A U H1 := ⟨va_Zq.kept h.1 hq, vx_L.kept h.2 hq⟩
theorem vx_Zq.narrow {C n d : String} {A B : Nat → Prop} {U : State} {H : Heap} (h : vx_Zq C n d A U H) (hAB : ∀ q, B q → A q) : vx_Zq C n d B U H := ⟨va_Zq.narrow h.1 hAB, vx_L.narrow h.2 hAB⟩
theorem vx_Zqof {args : Array Value} {s : State} {C n d : String} {A : Nat → Prop} (hl : (Cond.laysStatic C n d).before args s = true) (hini : (Cond.initialized C).before args s = true) (h : (Cond.isRef (.static C n d)).before args s = true) (hA : ∀ a : Nat, a < s.heap.size → ¬ A a) : vx_Zq C n d A s s.heap := by
  refine ⟨va_Zqof hl hini h hA, ?_⟩
  obtain ⟨c, k, i, f, a, cell, h1, h2, h3, h4, h5, h6, h7, h8, h9⟩ := Cond.laysStatic_spec hl
  exact ⟨c, k, i, f, a, cell, h1, h2, h3, h4, h5, h6, h7, h8, h9, hA a (Array.getElem?_eq_some_iff.mp h5).1⟩
theorem vx_isRef {C n d : String} {v : Value} {A : Nat → Prop} {s : State} {args : Array Value} (h : va_Z C n d v A s s.heap) (hv : v.isRef = true) : (Cond.isRef (.static C n d)).before args s = true := by
  obtain ⟨cf, kf, fi, f, a, cell, h1, h2, h3, h4, h5, h6, h7, -⟩ := h
  have he : (Term.static C n d).eval args s none [] s = some v := by
    simp [Term.eval, State.fieldNamed?, h1, h2, h4, h5, h6, h7]
  simp only [Cond.before, Cond.holds, Cond.value, he]
  cases v <;> simp_all [Value.isRef]
theorem vx_isRefq {C n d : String} {A : Nat → Prop} {s : State} {args : Array Value} (h : va_Zq C n d A s s.heap) : (Cond.isRef (.static C n d)).before args s = true := by
  rcases h with h | ⟨t, h⟩
  · exact vx_isRef h rfl
  · exact vx_isRef h rfl
/-- the same frame, seen from here: as if the method were called anew in this heap -/
theorem vx_rebase {T : State} (X : Stand p l e R s m args below meth c T locs cells slots) {R' : Room} (hf : R'.frames ≤ R.frames) (hl : R'.locals ≤ R.locals) (hc : cells + R'.cells ≤ R.cells) (hs : slots + R'.slots ≤ R.slots) :
    Stand p l e R' ((T.setVm s.vm).setFrames (.invoking m args :: below)) m args below meth c T [] 0 0 := by
  have htop : (T.setVm s.vm).topJava?.isSome := X.here.top
  have hF : ((T.setVm s.vm).setFrames (.invoking m args :: below)).frames = .invoking m args :: below := State.frames_setFrames _ (State.cur_lt_of_top htop)
  obtain ⟨g₀, hg0⟩ := Option.isSome_iff_exists.mp htop
  obtain ⟨r, hr⟩ := State.topJava?_eq_some.mp hg0
  have hl9 : e.platform.stackLimits (T.setVm s.vm).me = e.platform.stackLimits s.me := X.limits
  have hb9 : (T.setVm s.vm).me.stackBytes = s.me.stackBytes := X.bytes
  refine ⟨X.admits, X.cas, X.clock, hF, ?_, X.hears, X.method, X.code, X.here, X.tail, X.warmed, ?_, ?_, ?_⟩
  · have h := X.room
    have hU : ((T.setVm s.vm).setFrames (.invoking m args :: below)).localsInUse = s.localsInUse := by
      rw [State.localsInUse_invoking hF (meth := meth) (c := c) X.method X.code, State.localsInUse_invoking X.frames X.method X.code]
    simp only [State.hasRoom, Bool.and_eq_true, decide_eq_true_eq] at h ⊢
    obtain ⟨⟨⟨⟨h1, h2, h3, h4, h5, h6⟩, h7⟩, h8⟩, h9⟩ := h
    rw [X.frames, List.length_cons] at h2 h3
    have q1 := X.heapSize
    have q2 := X.used
    simp only [hF, hU, List.length_cons, State.stackLimits_setFrames, State.stackBytes_setFrames, hl9, hb9]
    refine ⟨⟨⟨⟨by omega, by omega, by omega, by omega, by omega, h6⟩, ?_⟩, ?_⟩, X.book⟩
    · show T.heap.size + R'.cells ≤ e.platform.maxCells
      omega
    · show T.slotsUsed + R'.slots ≤ e.platform.maxSlots
      omega
  · rw [State.stackLimits_setFrames]; rfl
  · rw [State.stackBytes_setFrames]; rfl
  · refine ⟨?_, Nat.le_refl _, Nat.le_refl _, ?_, ?_, fun a c9 h9 => ⟨c9, h9, rfl, rfl, fun _ _ => rfl⟩⟩
    · obtain ⟨t, ht, -⟩ := State.frames_cons hr
      show T.setVm s.vm = { ((T.setVm s.vm).setFrames (.invoking m args :: below)).setFrames (T.setVm s.vm).frames with heap := T.heap, slotsUsed := T.slotsUsed }
      rw [State.setFrames_setFrames, State.setFrames_self ht]
      rfl
    · show T.slotsUsed = T.slotsUsed + ((T.heap.toList.drop T.heap.size).map (·.slots.size)).sum
      rw [List.drop_eq_nil_of_le (Nat.le_of_eq Array.length_toList)]
      rfl
    · show ((T.heap.toList.drop T.heap.size).map (·.slots.size)).sum ≤ 0
      rw [List.drop_eq_nil_of_le (Nat.le_of_eq Array.length_toList)]
      exact Nat.le_refl _
/-- 'throw new E()': new; dup; invokespecial; athrow -/
theorem vx_throw0 {cc : ByteArray} {pc : Nat} (hexec : p.tables.exec = Jvm.exec) (hb : c.code = cc) (hl : l.stackTraces = false) {own cls : String} {names : List String} {ik ic mc ms : Nat} {A : Nat → Prop}
    (hown : s.vm.findClass own = some m.cls) (hcls : Bundle.fit cls = true) (hnames : ∀ n ∈ names, Bundle.fit n = true)
    (hk : (Cond.classLink own ik cls).before args s = true) (hini : (Cond.initialized cls).before args s = true) (hat : ∀ w ∈ vx_at0 own ic cls names, w.before args s = true)
    (hgood : ∀ w ∈ Cond.classLink own ik cls :: Cond.initialized cls :: vx_at0 own ic cls names, vx_ot w = true)
    (hU : vx_Zq Bundle.tN "UNASSIGNED_STACK" Bundle.steD A s s.heap) (hN : vx_Zq Bundle.tN "SUPPRESSED_SENTINEL" Bundle.listD A s s.heap) (hS : va_S A s.heap H locs) (hsize : ls.size = c.maxLocals)
    (d0 : decode cc pc = .ok (.new ik, 3)) (d3 : decode cc (pc + 3) = .ok (.dup, 1)) (d4 : decode cc (pc + 4) = .ok (.invokespecial ic, 3)) (d7 : decode cc (pc + 7) = .ok (.athrow, 1))
    (hout : ∀ x ∈ c.exceptionTable.toList, covers x (pc + 7) = false)
    (hRframes : names.length + 3 < R.frames) (hRlocals : (rest.map fun v => v.category).sum + (13 * (names.length + 1) + 42) ≤ R.locals) (hRcells : cells + 1 ≤ R.cells) (hRslots : slots + 6 ≤ R.slots) (hlocks : meth.locks = false)
    (hx : ∀ t : State, s.vm.Alike t.vm → H.size ≤ t.heap.size → (∀ q : Nat, q < H.size → t.heap[q]? = H[q]?) → XC cls s t)
    (hf : ∀ z ∈ locs, free z.base) (hc : cells + 1 ≤ mc) (hs : slots + 6 ≤ ms) :
    W p l e R s m args below meth c H locs cells slots (vx_MQ below Qc XC args s mc ms free) (F0 m pc ls rest) := by
  intro T hT X
  have htr : e.platform.stackTraces = false := (show e.platform.stackTraces = l.stackTraces by rw [X.admits.platform]).trans hl
  have Y := vx_rebase X (R' := { frames := R.frames, locals := R.locals, cells := 1, slots := 6 }) (Nat.le_refl _) (Nat.le_refl _) hRcells hRslots
  obtain ⟨s', hA⟩ : ∃ z, z = (T.setVm s.vm).setFrames (.invoking m args :: below) := ⟨_, rfl⟩
  rw [← hA] at Y
  have hvm : s'.vm = s.vm := by rw [hA]; rfl
  have hhp : s'.heap = H := by rw [hA]; exact hT
  have hW0 : s.WarmedH s'.vm := by rw [hvm]; exact State.WarmedH.refl s
  have hat' : ∀ w ∈ vx_at0 own ic cls names, w.before args s' = true := fun w hw => vx_ot_at hW0 hvm.symm (hgood w (List.mem_cons_of_mem _ (List.mem_cons_of_mem _ hw))) (hat w hw)
  have hk' : (Cond.classLink own ik cls).before args s' = true := vx_ot_at hW0 hvm.symm (hgood _ List.mem_cons_self) hk
  have hini' : (Cond.initialized cls).before args s' = true := vx_ot_at hW0 hvm.symm (hgood _ (List.mem_cons_of_mem _ List.mem_cons_self)) hini
  have hU' : vx_Zq Bundle.tN "UNASSIGNED_STACK" Bundle.steD A s' s'.heap := by rw [hhp]; exact vx_Zq.moved hW0.alike (hU.kept hS.2.1)
  have hN' : vx_Zq Bundle.tN "SUPPRESSED_SENTINEL" Bundle.listD A s' s'.heap := by rw [hhp]; exact vx_Zq.moved hW0.alike (hN.kept hS.2.1)
  have h : ∀ w ∈ Bundle.ownAtoms0 own ic cls names, w.before args s' = true := vx_own hat' (vx_isRefq hU'.1) (vx_isRefq hN'.1) hU'.2.word hN'.2.word
  have hown' : s'.vm.findClass own = some m.cls := by rw [hvm]; exact hown
  have hins : (Cond.instantiable cls 6).before args s' = true := h _ (by simp [Bundle.ownAtoms0])
  obtain ⟨vm₁, cX, kX, hfX, hkX, -, -, X₁, st1⟩ := Y.newCold hexec (own := own) (C := cls) (index := ik) (n := 6) hown' hk' hins hini'
    (g := F0 m pc ls rest) rfl (by rw [hb]; exact d0) (Nat.le_refl _) (Nat.le_refl _)
  generalize hT1 : (T.setVm vm₁).pushCell { cls := cX, slots := kX.instanceTypes.map defaultValue, vm := .none } = T1 at X₁ st1
  have hcat : (Value.ref T.heap.size).category = 1 := rfl
  have hcellA : T1.heap[T.heap.size]? = some (freshCell cX kX) := by rw [← hT1]; exact State.heap_pushCell_size _ _
  have d3' : decode c.code (pc + 3) = .ok (.dup, 1) := by rw [hb]; exact d3
  obtain ⟨U, hsteps, hrun, hend, hW, hsame, ce, hce, hO⟩ := X₁.ctorThrow0 hexec htr (own := own) (cls := cls) (names := names) (ic := ic) hown' hcls hnames h (fun x hx => nomatch hx) hfX hkX hcellA (by rw [hhp, hT]; exact Nat.le_refl _)
    (g := { method := m, pc := pc + 4, locals := ls, stack := .ref T.heap.size :: .ref T.heap.size :: rest, locked := none }) rfl hsize rfl rfl (rest := rest) rfl
    (by rw [hb]; exact d4) (by rw [hb]; exact d7) hout hRframes (by simp only [List.map_cons, List.sum_cons, hcat]; omega) hlocks
  obtain ⟨f1, f2⟩ := vx_frame hsame
  rw [hhp] at f1 f2
  have hWs : s.WarmedH U.vm := State.WarmedH.trans hW0 hW
  have hcl : s.vm.findClass cls = some ce.cls := by
    have h9 := hO.cls
    rw [hvm] at h9
    exact h9
  have hall : s.sameButNew ({ U with vm := s.vm } : State) locs mc ms := by
    subst hA
    obtain ⟨e1, e2⟩ := hsame
    rw [State.setFrames_setFrames] at e1
    have h2 : (T.setVm s.vm).sameButNew ({ U with vm := s.vm } : State) [] (0 + 1) (0 + 6) := ⟨e1, e2⟩
    have h3 := X.same.trans h2
    rw [List.append_nil] at h3
    exact h3.mono hc hs
  refine ⟨U, ?_, .threw T.heap.size, hrun, hend, Or.inr ⟨T.heap.size, rfl, cls, ce, locs, hx U hWs.alike f1 (fun q hq => f2 q hq (fun z hz => nomatch hz)), hce, hO.vm, hcl, hWs, hall, hf⟩⟩
  refine st1 _ ?_
  show Steps p.tables e below (T1.setTop { method := m, pc := pc + 3, locals := ls, stack := .ref T.heap.size :: rest, locked := none }) _
  jvm_step X₁.here [X₁.here.top, hexec, d3', Value.category]
  exact hsteps
/-- 'throw new E("text")': new; dup; ldc; invokespecial; athrow -/
theorem vx_throwS {cc : ByteArray} {pc : Nat} (hexec : p.tables.exec = Jvm.exec) (hb : c.code = cc) (hl : l.stackTraces = false) {own cls text : String} {names : List String} {ik is ic mc ms sa : Nat} {A : Nat → Prop}
    (hown : s.vm.findClass own = some m.cls) (hcls : Bundle.fit cls = true) (hnames : ∀ n ∈ names, Bundle.fit n = true)
    (hk : (Cond.classLink own ik cls).before args s = true) (hini : (Cond.initialized cls).before args s = true) (hstr : vk_R own is text sa s) (hat : ∀ w ∈ vx_atS own ic cls names, w.before args s = true)
    (hgood : ∀ w ∈ Cond.classLink own ik cls :: Cond.initialized cls :: vx_atS own ic cls names, vx_ot w = true)
    (hU : vx_Zq Bundle.tN "UNASSIGNED_STACK" Bundle.steD A s s.heap) (hN : vx_Zq Bundle.tN "SUPPRESSED_SENTINEL" Bundle.listD A s s.heap) (hS : va_S A s.heap H locs) (hsize : ls.size = c.maxLocals)
    (d0 : decode cc pc = .ok (.new ik, 3)) (d3 : decode cc (pc + 3) = .ok (.dup, 1)) (d4 : decode cc (pc + 4) = .ok (.ldc is, 2)) (d6 : decode cc (pc + 6) = .ok (.invokespecial ic, 3)) (d9 : decode cc (pc + 9) = .ok (.athrow, 1))
    (hout : ∀ x ∈ c.exceptionTable.toList, covers x (pc + 9) = false)
    (hRframes : names.length + 3 < R.frames) (hRlocals : (rest.map fun v => v.category).sum + (13 * (names.length + 1) + 43) ≤ R.locals) (hRcells : cells + 1 ≤ R.cells) (hRslots : slots + 6 ≤ R.slots) (hlocks : meth.locks = false)
    (hx : ∀ t : State, s.vm.Alike t.vm → H.size ≤ t.heap.size → (∀ q : Nat, q < H.size → t.heap[q]? = H[q]?) → XC cls s t)
    (hf : ∀ z ∈ locs, free z.base) (hc : cells + 1 ≤ mc) (hs : slots + 6 ≤ ms) :
    W p l e R s m args below meth c H locs cells slots (vx_MQ below Qc XC args s mc ms free) (F0 m pc ls rest) := by
  intro T hT X
  have htr : e.platform.stackTraces = false := (show e.platform.stackTraces = l.stackTraces by rw [X.admits.platform]).trans hl
  have Y := vx_rebase X (R' := { frames := R.frames, locals := R.locals, cells := 1, slots := 6 }) (Nat.le_refl _) (Nat.le_refl _) hRcells hRslots
  obtain ⟨s', hA⟩ : ∃ z, z = (T.setVm s.vm).setFrames (.invoking m args :: below) := ⟨_, rfl⟩
  rw [← hA] at Y
  have hvm : s'.vm = s.vm := by rw [hA]; rfl
  have hhp : s'.heap = H := by rw [hA]; exact hT
  have hW0 : s.WarmedH s'.vm := by rw [hvm]; exact State.WarmedH.refl s
  have hat' : ∀ w ∈ vx_atS own ic cls names, w.before args s' = true := fun w hw => vx_ot_at hW0 hvm.symm (hgood w (List.mem_cons_of_mem _ (List.mem_cons_of_mem _ hw))) (hat w hw)
  have hk' : (Cond.classLink own ik cls).before args s' = true := vx_ot_at hW0 hvm.symm (hgood _ List.mem_cons_self) hk
  have hini' : (Cond.initialized cls).before args s' = true := vx_ot_at hW0 hvm.symm (hgood _ (List.mem_cons_of_mem _ List.mem_cons_self)) hini
  have hU' : vx_Zq Bundle.tN "UNASSIGNED_STACK" Bundle.steD A s' s'.heap := by rw [hhp]; exact vx_Zq.moved hW0.alike (hU.kept hS.2.1)
  have hN' : vx_Zq Bundle.tN "SUPPRESSED_SENTINEL" Bundle.listD A s' s'.heap := by rw [hhp]; exact vx_Zq.moved hW0.alike (hN.kept hS.2.1)
  have h : ∀ w ∈ Bundle.ownAtoms own ic cls names, w.before args s' = true := vx_own hat' (vx_isRefq hU'.1) (vx_isRefq hN'.1) hU'.2.word hN'.2.word
  have hown' : s'.vm.findClass own = some m.cls := by rw [hvm]; exact hown
  have hins : (Cond.instantiable cls 6).before args s' = true := h _ (by simp [Bundle.ownAtoms])
  obtain ⟨vm₁, cX, kX, hfX, hkX, -, -, X₁, st1⟩ := Y.newCold hexec (own := own) (C := cls) (index := ik) (n := 6) hown' hk' hins hini'
    (g := F0 m pc ls rest) rfl (by rw [hb]; exact d0) (Nat.le_refl _) (Nat.le_refl _)
  generalize hT1 : (T.setVm vm₁).pushCell { cls := cX, slots := kX.instanceTypes.map defaultValue, vm := .none } = T1 at X₁ st1
  have hcat : (Value.ref T.heap.size).category = 1 := rfl
  have hcellA : T1.heap[T.heap.size]? = some (freshCell cX kX) := by rw [← hT1]; exact State.heap_pushCell_size _ _
  have d3' : decode c.code (pc + 3) = .ok (.dup, 1) := by rw [hb]; exact d3
  have d4' : decode c.code (pc + 4) = .ok (.ldc is, 2) := by rw [hb]; exact d4
  have hstr' : vk_R own is text sa s' := vk_R.warm hW0 hstr
  obtain ⟨U, hsteps, hrun, hend, hW, hsame, ce, hce, hO⟩ := X₁.ctorThrowS hexec htr (own := own) (cls := cls) (names := names) (ic := ic) hown' hcls hnames h (fun x hx => nomatch hx) hfX hkX hcellA (by rw [hhp, hT]; exact Nat.le_refl _) (msg := .ref sa) rfl
    (g := { method := m, pc := pc + 6, locals := ls, stack := .ref sa :: .ref T.heap.size :: .ref T.heap.size :: rest, locked := none }) rfl hsize rfl rfl (rest := rest) rfl
    (by rw [hb]; exact d6) (by rw [hb]; exact d9) hout hRframes (by simp only [List.map_cons, List.sum_cons, hcat]; omega) hlocks
  obtain ⟨f1, f2⟩ := vx_frame hsame
  rw [hhp] at f1 f2
  have hWs : s.WarmedH U.vm := State.WarmedH.trans hW0 hW
  have hcl : s.vm.findClass cls = some ce.cls := by
    have h9 := hO.cls
    rw [hvm] at h9
    exact h9
  have hall : s.sameButNew ({ U with vm := s.vm } : State) locs mc ms := by
    subst hA
    obtain ⟨e1, e2⟩ := hsame
    rw [State.setFrames_setFrames] at e1
    have h2 : (T.setVm s.vm).sameButNew ({ U with vm := s.vm } : State) [] (0 + 1) (0 + 6) := ⟨e1, e2⟩
    have h3 := X.same.trans h2
    rw [List.append_nil] at h3
    exact h3.mono hc hs
  refine ⟨U, ?_, .threw T.heap.size, hrun, hend, Or.inr ⟨T.heap.size, rfl, cls, ce, locs, hx U hWs.alike f1 (fun q hq => f2 q hq (fun z hz => nomatch hz)), hce, hO.vm, hcl, hWs, hall, hf⟩⟩
  refine st1 _ ?_
  show Steps p.tables e below (T1.setTop { method := m, pc := pc + 3, locals := ls, stack := .ref T.heap.size :: rest, locked := none }) _
  jvm_step X₁.here [X₁.here.top, hexec, d3', Value.category]
  exact X₁.ldcString hexec (own := own) (text := text) (index := is) (a := sa) hown' hstr'.1 hstr'.2
    (g := { method := m, pc := pc + 4, locals := ls, stack := .ref T.heap.size :: .ref T.heap.size :: rest, locked := none }) rfl d4' _ hsteps
/-- 'throw new E("text")', the text by a wide index -/
theorem vx_throwSW {cc : ByteArray} {pc : Nat} (hexec : p.tables.exec = Jvm.exec) (hb : c.code = cc) (hl : l.stackTraces = false) {own cls text : String} {names : List String} {ik is ic mc ms sa : Nat} {A : Nat → Prop}
    (hown : s.vm.findClass own = some m.cls) (hcls : Bundle.fit cls = true) (hnames : ∀ n ∈ names, Bundle.fit n = true)
    (hk : (Cond.classLink own ik cls).before args s = true) (hini : (Cond.initialized cls).before args s = true) (hstr : vk_R own is text sa s) (hat : ∀ w ∈ vx_atS own ic cls names, w.before args s = true)
    (hgood : ∀ w ∈ Cond.classLink own ik cls :: Cond.initialized cls :: vx_atS own ic cls names, vx_ot w = true)
    (hU : vx_Zq Bundle.tN "UNASSIGNED_STACK" Bundle.steD A s s.heap) (hN : vx_Zq Bundle.tN "SUPPRESSED_SENTINEL" Bundle.listD A s s.heap) (hS : va_S A s.heap H locs) (hsize : ls.size = c.maxLocals)
    (d0 : decode cc pc = .ok (.new ik, 3)) (d3 : decode cc (pc + 3) = .ok (.dup, 1)) (d4 : decode cc (pc + 4) = .ok (.ldc_w is, 3)) (d7 : decode cc (pc + 7) = .ok (.invokespecial ic, 3)) (d10 : decode cc (pc + 10) = .ok (.athrow, 1))
    (hout : ∀ x ∈ c.exceptionTable.toList, covers x (pc + 10) = false)
    (hRframes : names.length + 3 < R.frames) (hRlocals : (rest.map fun v => v.category).sum + (13 * (names.length + 1) + 43) ≤ R.locals) (hRcells : cells + 1 ≤ R.cells) (hRslots : slots + 6 ≤ R.slots) (hlocks : meth.locks = false)
    (hx : ∀ t : State, s.vm.Alike t.vm → H.size ≤ t.heap.size → (∀ q : Nat, q < H.size → t.heap[q]? = H[q]?) → XC cls s t)
    (hf : ∀ z ∈ locs, free z.base) (hc : cells + 1 ≤ mc) (hs : slots + 6 ≤ ms) :
    W p l e R s m args below meth c H locs cells slots (vx_MQ below Qc XC args s mc ms free) (F0 m pc ls rest) := by
  intro T hT X
  have htr : e.platform.stackTraces = false := (show e.platform.stackTraces = l.stackTraces by rw [X.admits.platform]).trans hl
  have Y := vx_rebase X (R' := { frames := R.frames, locals := R.locals, cells := 1, slots := 6 }) (Nat.le_refl _) (Nat.le_refl _) hRcells hRslots
  obtain ⟨s', hA⟩ : ∃ z, z = (T.setVm s.vm).setFrames (.invoking m args :: below) := ⟨_, rfl⟩
  rw [← hA] at Y
  have hvm : s'.vm = s.vm := by rw [hA]; rfl
  have hhp : s'.heap = H := by rw [hA]; exact hT
  have hW0 : s.WarmedH s'.vm := by rw [hvm]; exact State.WarmedH.refl s
  have hat' : ∀ w ∈ vx_atS own ic cls names, w.before args s' = true := fun w hw => vx_ot_at hW0 hvm.symm (hgood w (List.mem_cons_of_mem _ (List.mem_cons_of_mem _ hw))) (hat w hw)
  have hk' : (Cond.classLink own ik cls).before args s' = true := vx_ot_at hW0 hvm.symm (hgood _ List.mem_cons_self) hk
  have hini' : (Cond.initialized cls).before args s' = true := vx_ot_at hW0 hvm.symm (hgood _ (List.mem_cons_of_mem _ List.mem_cons_self)) hini
  have hU' : vx_Zq Bundle.tN "UNASSIGNED_STACK" Bundle.steD A s' s'.heap := by rw [hhp]; exact vx_Zq.moved hW0.alike (hU.kept hS.2.1)
  have hN' : vx_Zq Bundle.tN "SUPPRESSED_SENTINEL" Bundle.listD A s' s'.heap := by rw [hhp]; exact vx_Zq.moved hW0.alike (hN.kept hS.2.1)
  have h : ∀ w ∈ Bundle.ownAtoms own ic cls names, w.before args s' = true := vx_own hat' (vx_isRefq hU'.1) (vx_isRefq hN'.1) hU'.2.word hN'.2.word
  have hown' : s'.vm.findClass own = some m.cls := by rw [hvm]; exact hown
  have hins : (Cond.instantiable cls 6).before args s' = true := h _ (by simp [Bundle.ownAtoms])
  obtain ⟨vm₁, cX, kX, hfX, hkX, -, -, X₁, st1⟩ := Y.newCold hexec (own := own) (C := cls) (index := ik) (n := 6) hown' hk' hins hini'
    (g := F0 m pc ls rest) rfl (by rw [hb]; exact d0) (Nat.le_refl _) (Nat.le_refl _)
  generalize hT1 : (T.setVm vm₁).pushCell { cls := cX, slots := kX.instanceTypes.map defaultValue, vm := .none } = T1 at X₁ st1
  have hcat : (Value.ref T.heap.size).category = 1 := rfl
  have hcellA : T1.heap[T.heap.size]? = some (freshCell cX kX) := by rw [← hT1]; exact State.heap_pushCell_size _ _
  have d3' : decode c.code (pc + 3) = .ok (.dup, 1) := by rw [hb]; exact d3
  have d4' : decode c.code (pc + 4) = .ok (.ldc_w is, 3) := by rw [hb]; exact d4
  have hstr' : vk_R own is text sa s' := vk_R.warm hW0 hstr
  obtain ⟨U, hsteps, hrun, hend, hW, hsame, ce, hce, hO⟩ := X₁.ctorThrowS hexec htr (own := own) (cls := cls) (names := names) (ic := ic) hown' hcls hnames h (fun x hx => nomatch hx) hfX hkX hcellA (by rw [hhp, hT]; exact Nat.le_refl _) (msg := .ref sa) rfl
    (g := { method := m, pc := pc + 7, locals := ls, stack := .ref sa :: .ref T.heap.size :: .ref T.heap.size :: rest, locked := none }) rfl hsize rfl rfl (rest := rest) rfl
    (by rw [hb]; exact d7) (by rw [hb]; exact d10) hout hRframes (by simp only [List.map_cons, List.sum_cons, hcat]; omega) hlocks
  obtain ⟨f1, f2⟩ := vx_frame hsame
  rw [hhp] at f1 f2
  have hWs : s.WarmedH U.vm := State.WarmedH.trans hW0 hW
  have hcl : s.vm.findClass cls = some ce.cls := by
    have h9 := hO.cls
    rw [hvm] at h9
    exact h9
  have hall : s.sameButNew ({ U with vm := s.vm } : State) locs mc ms := by
    subst hA
    obtain ⟨e1, e2⟩ := hsame
    rw [State.setFrames_setFrames] at e1
    have h2 : (T.setVm s.vm).sameButNew ({ U with vm := s.vm } : State) [] (0 + 1) (0 + 6) := ⟨e1, e2⟩
    have h3 := X.same.trans h2
    rw [List.append_nil] at h3
    exact h3.mono hc hs
  refine ⟨U, ?_, .threw T.heap.size, hrun, hend, Or.inr ⟨T.heap.size, rfl, cls, ce, locs, hx U hWs.alike f1 (fun q hq => f2 q hq (fun z hz => nomatch hz)), hce, hO.vm, hcl, hWs, hall, hf⟩⟩
  refine st1 _ ?_
  show Steps p.tables e below (T1.setTop { method := m, pc := pc + 3, locals := ls, stack := .ref T.heap.size :: rest, locked := none }) _
  jvm_step X₁.here [X₁.here.top, hexec, d3', Value.category]
  exact X₁.ldcStringW hexec (own := own) (text := text) (index := is) (a := sa) hown' hstr'.1 hstr'.2
    (g := { method := m, pc := pc + 4, locals := ls, stack := .ref T.heap.size :: .ref T.heap.size :: rest, locked := none }) rfl d4' _ hsteps
end Ends
section Bodies
variable {l : Launch}
theorem vx_ofW {y : MethodName} {ws ws' : List Cond} {rm : Room} {Pc : Array Value → State → Prop} {Qc : Array Value → State → Outcome → State → Prop} {XC : String → State → State → Prop} {mc ms : Nat} {free : Addr → Prop} {cc : ByteArray} {maxL : Nat} {ret : Option FieldType}
    (hy : plainName y.cls = true) (hw : ws = Cond.code y cc maxL ret :: ws')
    (body : ∀ p e s m args below meth c s₁, BodyLoose p l y (headSpec ws rm) cc maxL ret e s m args below meth c s₁ → c.maxLocals = maxL → (∀ x ∈ c.exceptionTable.toList, False) → Pc args s →
      W p l e (headSpec ws rm).room s m args below meth c s.heap [] 0 0 (vx_MQ below Qc XC args s mc ms free) (entryFrame m args maxL)) : vx_Met l y ws rm Pc Qc XC mc ms free := by
  refine MetFree.of_bodyS (code := cc) (maxLocals := maxL) (ret := ret) hy ?_ ?_
  · intro args s m h hn
    obtain ⟨meth, c, h1, h2, h3, h4, h5, h6, -, -⟩ := Cond.code_spec hn (atoms_spec (ws := ws) h _ (by rw [hw]; exact List.mem_cons_self))
    exact ⟨meth, c, h1, h2, h3, h4, h5, h6⟩
  · intro p e s m args below meth c s₁ B hml hP _
    have hh0 : s₁.heap = s.heap := by rw [B.state]; rfl
    have ht : ∀ x ∈ c.exceptionTable.toList, False := by
      obtain ⟨meth9, c9, h1, h2, -, -, -, -, h7, -⟩ := Cond.code_spec B.named (atoms_spec (ws := ws) B.pre _ (by rw [hw]; exact List.mem_cons_self))
      cases Option.some.inj (h1.symm.trans B.method)
      cases Option.some.inj (h2.symm.trans (Stand.of_body B).code)
      intro x hx
      rw [Array.isEmpty_iff.mp h7] at hx
      cases hx
    obtain ⟨t, a1, o, b1, b2, b3⟩ := body p e s m args below meth c s₁ B hml ht hP s₁ hh0 (Stand.of_body B)
    exact ⟨t, o, a1, b1, b2, b3⟩
/-- the table of a body with handlers -/
theorem vx_table {p : Program} {x y : MethodName} {S : Spec} {cc bytes : ByteArray} {maxL maxL' : Nat} {ret ret' : Option FieldType} {e : Env} {s s₁ : State} {m : MethodId} {args : Array Value} {below : List Frame} {meth : Method} {c : Code} {hh : List (Nat × Nat × Nat × Nat)}
    (B : BodyLoose p l y S cc maxL ret e s m args below meth c s₁) (h : (Cond.codeWith y bytes maxL' ret' hh).before args s = true) : c.exceptionTable.toList = tableOf hh := by
  obtain ⟨m9, meth9, c9, hn9, h1, h2, -, -, h6, -⟩ := Cond.codeWith_spec h
  cases Option.some.inj (hn9.symm.trans B.named)
  cases Option.some.inj (h1.symm.trans B.method)
  cases Option.some.inj (h2.symm.trans (Stand.of_body B).code)
  rw [← h6, table_eq]
end Bodies
end VXA
/-! ===== END ===== -/
/-! ===== BEGIN a static call of a method with an exception table ===== -/
section VXS
variable {p : Program} {l : Launch} {e : Env} {R : Room} {s : State} {m : MethodId} {args : Array Value} {below : List Frame} {meth : Method} {c : Code} {T : State} {H : Heap} {locs : List Loc} {cells slots : Nat}
abbrev vx_CSW (R : Room) (s : State) (args : Array Value) (own : String) (index : Nat) (y : MethodName) (bytes : ByteArray) (maxL : Nat) (ret : Option FieldType) (hh : List (Nat × Nat × Nat × Nat)) (ws : List Cond) (rm : Room) (mc ms n : Nat) : Prop :=
  (rm.cells = mc ∧ rm.slots = ms ∧ rm.frames + 1 ≤ R.frames ∧ 8 + (maxL + 11) + rm.locals ≤ R.locals ∧ (∀ w ∈ ws, ∀ (a' : Array Value) (U : State), s.WarmedH U.vm → w.before a' U = true) ∧ Cond.codeWith y bytes maxL ret hh ∈ ws) ∧
  (Cond.codeWith y bytes maxL ret hh).before args s = true ∧ (Cond.initialized y.cls).before args s = true ∧ (y.cls ≠ "java/lang/invoke/MethodHandle" ∧ y.cls ≠ "java/lang/invoke/VarHandle") ∧
  (∀ sig, parseMethodDescriptor y.desc = some sig → n = sig.parameters.length) ∧ (Cond.methodLink own index y).before args s = true ∧ (Cond.static y).before args s = true
theorem vx_cwSW {own : String} {index maxL mc ms : Nat} {y : MethodName} {bytes : ByteArray} {ret : Option FieldType} {hh : List (Nat × Nat × Nat × Nat)} {Ts ws ws' : List Cond} {rm : Room} (n : Nat) (ht : ∀ w ∈ Ts, w.before args s = true) (hT : GoodIn Ts (va_wsS own index y ws)) (hw : ws = Cond.codeWith y bytes maxL ret hh :: ws') (hrc : rm.cells = mc) (hrs : rm.slots = ms)
    (hd : y.cls ≠ "java/lang/invoke/MethodHandle" ∧ y.cls ≠ "java/lang/invoke/VarHandle" ∧ (parseMethodDescriptor y.desc).map (fun d => d.parameters.length) = some n) (hR : rm.frames + 1 ≤ R.frames ∧ 8 + (maxL + 11) + rm.locals ≤ R.locals) :
    vx_CSW R s args own index y bytes maxL ret hh ws rm mc ms n := by
  have ok : ∀ w ∈ va_wsS own index y ws, w.before args s = true := fun w h => ht w (hT w h).1
  have hG : GoodIn Ts ws := fun w h => hT w (by unfold va_wsS; exact List.mem_append_right _ h)
  have hc : Cond.codeWith y bytes maxL ret hh ∈ ws := by rw [hw]; exact List.mem_cons_self
  refine ⟨⟨hrc, hrs, hR.1, hR.2, pay_in ht hG, hc⟩, ht _ (hG _ hc).1, ok _ (by simp [va_wsS]), ⟨hd.1, hd.2.1⟩, fun sig h => ?_, ok _ (by simp [va_wsS]), ok _ (by simp [va_wsS])⟩
  have h2 := hd.2.2
  rw [h] at h2
  exact (Option.some.inj h2).symm
theorem vx_callSW (X : Stand p l e R s m args below meth c T locs cells slots) (hexec : p.tables.exec = Jvm.exec) {own : String} {index : Nat} {y : MethodName} {bytes : ByteArray} {maxL : Nat} {ret : Option FieldType} {hh : List (Nat × Nat × Nat × Nat)}
    (hown : s.vm.findClass own = some m.cls) (hlink : (Cond.methodLink own index y).before args s = true) (hstat : (Cond.static y).before args s = true) (hinit : (Cond.initialized y.cls).before args s = true)
    (hcode : (Cond.codeWith y bytes maxL ret hh).before args s = true) (hy : y.cls ≠ "java/lang/invoke/MethodHandle" ∧ y.cls ≠ "java/lang/invoke/VarHandle")
    {W9 : Nat} {Pre : Pt → Array Value → Prop} {Post : Pt → Array Value → Option Value → Pt → Prop} (hK : Back l R p e below s args y 3 W9 Pre Post)
    {g : JFrame} (hg : g.method = m) (hsize : g.locals.size = c.maxLocals) {argsL rest : List Value} (hlen : ∀ sig, parseMethodDescriptor y.desc = some sig → argsL.length = sig.parameters.length)
    (hstack : g.stack = argsL.reverse ++ rest) (hW : 2 * g.monitorRoom + (rest.map fun v => v.category).sum ≤ W9) (hdg : decode c.code g.pc = .ok (.invokestatic index, 3))
    (hpre : ∀ vm₁, s.WarmedH vm₁ → Pre ⟨T.setVm vm₁, locs, cells, slots⟩ argsL.toArray) :
    ∃ (v : Option Value) (vm₁ : Vm) (B : Pt), s.WarmedH vm₁ ∧ Stand p l e R s m args below meth c B.U B.locs B.cells B.slots ∧ Post ⟨T.setVm vm₁, locs, cells, slots⟩ argsL.toArray v B ∧
      ∀ target, Steps p.tables e below (B.U.setTop { g with pc := g.pc + 3, stack := v.toList ++ rest }) target → Steps p.tables e below (T.setTop g) target := by
  obtain ⟨mk, methM, cM, hnamed, hmethM, -, -, -, -, -, -, hsigM⟩ := Cond.codeWith_spec hcode
  have hstatic : methM.isStatic = true := Cond.static_spec hnamed hmethM hstat
  obtain ⟨kP, hkP, -⟩ := className_of_methodNamed hnamed
  have hinitP : kP.init = .initialized := Cond.initialized_spec (findClass_of_methodNamed hnamed) hkP hinit
  obtain ⟨vm₁, X₁, hstep₁⟩ := X.invokestatic hexec hown hlink hnamed hmethM hstatic hkP hinitP hy (g := g) hg (argsL := argsL) (rest := rest) (hlen _ hsigM) hstack hdg
  obtain ⟨v, B, X', hpost, hsteps⟩ := hK m meth c ⟨T.setVm vm₁, locs, cells, slots⟩ { g with stack := rest } (.invokestatic index) mk argsL.toArray X₁ hg hsize hdg hW (X₁.named hnamed) (hpre vm₁ X₁.warmed)
  exact ⟨v, vm₁, B, X₁.warmed, X', hpost, fun target h => hstep₁ _ fun acts => by rw [doInvoke_state]; exact hsteps.trans h⟩
theorem vx_runSW {y : MethodName} {bytes cc : ByteArray} {maxL nL mc ms n index : Nat} {ret : Option FieldType} {hh : List (Nat × Nat × Nat × Nat)} {ws : List Cond} {rm : Room} {Pc : Array Value → State → Prop} {Qc : Array Value → State → Outcome → State → Prop} {free : Addr → Prop} {Ts : List Cond} {own : String} {As rest : List Value} {g : JFrame}
    (S : CallFix p m c cc nL s args Ts own) (hM : Met l y ws rm Pc Qc mc ms free) (cw : vx_CSW R s args own index y bytes maxL ret hh ws rm mc ms n) (hp : PreS s H Pc As)
    (hg : g.method = m) (hn : As.length = n) (hsize : g.locals.size = nL) (hstack : g.stack = As.reverse ++ rest) (hW : 2 * g.monitorRoom + (rest.map fun v => v.category).sum ≤ 8) (hdg : decode cc g.pc = .ok (.invokestatic index, 3)) (hf : cells + mc ≤ R.cells ∧ slots + ms ≤ R.slots) :
    va_Run p l e R s m args below meth c H locs cells slots mc ms g rest (Qc As.toArray) (free) := by
  obtain ⟨⟨hrc, hrs, hfr, hlo, hws, hcw⟩, hcode, hini, hy, hlen, hl, hstt⟩ := cw
  have hK : Back l R p e below s args y 3 8 (PreOf R mc ms Pc) (PostOf Qc mc ms free) := va_backW (hh := hh) (bytes := bytes) (maxL := maxL) (ret := ret) hM hp.1 hrc hrs hfr hlo hws hcw (fun a' U hW => word_at hW (Or.inl (by first | rfl | simp [Cond.onTables, Cond.keeps, Cond.steady])) hini)
  obtain ⟨hx, hb, hml, ho, -⟩ := S
  intro T hT X
  obtain ⟨v, vm₁, ⟨U', l2, c2, s2⟩, hW₁, X', ⟨g', mk, t, L, e1, e2, hq, h1, hL, h2, h3⟩, st⟩ := vx_callSW X hx (hh := hh) (bytes := bytes) (maxL := maxL) (ret := ret) ho hl hstt hini hcode hy hK hg (hsize.trans hml.symm) (argsL := As) (rest := rest) (fun sig h => hn.trans (hlen sig h)) hstack hW (by rw [hb]; exact hdg)
    (fun vm₁ hW₁ => ⟨hf.1, hf.2, hp.2 (T.setVm vm₁) hT hW₁⟩)
  dsimp only [Pt.U, Pt.locs, Pt.cells, Pt.slots] at X' e1 e2 h1 h2 h3 st
  subst h1; subst h2; subst h3
  exact ⟨v, (T.setVm vm₁).calling g' mk As.toArray, t, U', L, hT, X', hL, e1, e2, hq, st⟩
/-- not caught here, past rows that name other classes: it goes on to the caller -/
theorem vx_outP {p : Program} {l : Launch} {e : Env} {R : Room} {s : State} {m : MethodId} {args : Array Value} {below : List Frame} {meth : Method} {c : Code} {H : Heap} {locs : List Loc} {cells slots : Nat} {free : Addr → Prop} {ls : Array Slot} {rest : List Value} {Qc : Array Value → State → Outcome → State → Prop} {XC : String → State → State → Prop}
    {pc : Nat} {own E : String} {ce : Cell} {q : Addr} {mc ms : Nat} (hown : s.vm.findClass own = some m.cls) (hlocks : meth.locks = false)
    (hpass : ∀ z ∈ c.exceptionTable.toList, covers z pc = false ∨ (z.catchType ≠ 0 ∧ ∃ nm : String, (Cond.classLink own z.catchType nm).before args s = true ∧ va_Nc E nm s)) (hcell : H[q]? = some ce) (hv : ce.vm = .none) (hcl : s.vm.findClass E = some ce.cls)
    (hx : ∀ t : State, t.heap = H → s.vm.Alike t.vm → XC E s t) (hf : ∀ z ∈ locs, free z.base) (hc : cells ≤ mc) (hs : slots ≤ ms) :
    vx_W p l e R s m args below meth c H locs cells slots (vx_MQ below Qc XC args s mc ms free) (F0 m pc ls rest) q := by
  intro T hT X
  have hpl : e.platform.magicAccessors = ({} : Platform).magicAccessors := by rw [X.admits.platform]
  obtain ⟨vm', hW', X', st⟩ := X.outThrough hlocks q (g := F0 m pc ls rest) rfl rfl rfl (cell := ce) (by rw [hT]; exact hcell) (by rw [hv]; rfl)
    (by obtain ⟨k9, h9, -⟩ := Vm.findClass_spec hcl; exact ⟨k9, h9⟩) (fun z hz => by
      rcases hpass z hz with h | ⟨hz0, nm, hl1, hn1⟩
      · exact Or.inl h
      · obtain ⟨c6, hc6, hcl6⟩ := Cond.classLink_spec hown hl1 e.platform hpl
        obtain ⟨a8, b8, h1, h2, h3⟩ := hn1
        cases Option.some.inj (h1.symm.trans hcl)
        cases Option.some.inj (h2.symm.trans hc6)
        exact Or.inr ⟨hz0, _, hcl6, h3⟩)
  obtain ⟨g₀, hfr⟩ := X'.frames_eq
  have hcell9 : ((T.setVm vm').setFrames (.throwing q :: below)).heap[q]? = some ce := by
    show T.heap[q]? = some ce
    rw [hT]; exact hcell
  have hend : Ended ((T.setVm vm').setFrames (.throwing q :: below)) below (.threw q) := State.frames_setFrames _ (State.cur_lt_of_frames hfr)
  refine ⟨(T.setVm vm').setFrames (.throwing q :: below), ?_, .threw q, X'.here.running, hend, Or.inr ⟨q, rfl, E, ce, locs, hx _ hT (X'.ends _).1.alike, hcell9, hv, hcl, (X'.ends _).1, (X'.ends _).2.mono hc hs, hf⟩⟩
  rw [X.pushThrowing_eq]
  exact st
/-- a thing of a world lies in the heap -/
theorem vx_lt {D : va_G} {cl : List vw_C} {ws : va_W} {H1 : Heap} (h : va_P D cl ws H1) {k : Nat} {q : Nat × va_E} (hk : ws[k]? = some q) : q.1 < H1.size := (h k q hk).lt
end VXS
/-! ===== END ===== -/
/-! ===== BEGIN methods with a table of their own: called by a name, returning or throwing ===== -/
section VXH
/-! vx_backW, vx_callVX, vx_callSX, vx_callVW, vx_runVW, vx_runVX, vx_runSX, vx_ofWH follow the same proofs as their sisters above (Free/Laws.lean, Shelf42/LK1.lean); vx_outP calls Shelf42/NT130.lean (outThrough). -/
section
variable {l : Launch} {R : Room} {p : Program} {e : Env} {below : List Frame} {s : State} {sargs : Array Value} {y : MethodName} {len W9 : Nat}
theorem vx_backW {ws : List Cond} {rm : Room} {Pc : Array Value → State → Prop} {Qc : Array Value → State → Outcome → State → Prop} {XC : String → State → State → Prop} {mc ms : Nat} {free : Addr → Prop} {bytes : ByteArray} {maxL : Nat} {ret : Option FieldType} {hh : List (Nat × Nat × Nat × Nat)}
    (hM : vx_Met l y ws rm Pc Qc XC mc ms free) (hblind : FrameBlind Pc) (hrc : rm.cells = mc) (hrs : rm.slots = ms)
    (hframes : rm.frames + 1 ≤ R.frames) (hlocals : W9 + (maxL + 11) + rm.locals ≤ R.locals)
    (hws : ∀ w ∈ ws, ∀ a' U, s.WarmedH U.vm → w.before a' U = true) (hcode : Cond.codeWith y bytes maxL ret hh ∈ ws) (hinit : ∀ a' U, s.WarmedH U.vm → (Cond.initialized y.cls).before a' U = true) :
    vx_Back l R p e below s sargs y len W9 (PreOf R mc ms Pc) (PostOf Qc mc ms free) (vx_Post XC mc ms free) := by
  intro m meth c A g ig mk a X hg hsize hdg hW hn hp
  have h1 : (headSpec ws rm).pre.before a A.U = true := atoms_intro fun w hw => hws w hw _ _ X.warmed
  have h2 : (Cond.codeWith y bytes maxL ret hh).before a A.U = true := hws _ hcode _ _ X.warmed
  have h3 : (Cond.initialized y.cls).before a A.U = true := hinit _ _ X.warmed
  have h4 : A.cells + (headSpec ws rm).room.cells ≤ R.cells := by rw [show (headSpec ws rm).room.cells = mc from hrc]; exact hp.1
  have h5 : A.slots + (headSpec ws rm).room.slots ≤ R.slots := by rw [show (headSpec ws rm).room.slots = ms from hrs]; exact hp.2.1
  have hPc : Pc a (A.U.calling g mk a) := hblind _ _ _ _ hp.2.2
  obtain ⟨U, Ls, c0, s0⟩ := A
  dsimp only [Pt.U, Pt.locs, Pt.cells, Pt.slots] at h1 h2 h3 h4 h5 X hn hPc ⊢
  obtain ⟨m9, methY, cY, hn9, hmY, hcY, -, hlY, -⟩ := Cond.codeWith_spec h2
  cases Option.some.inj (hn9.symm.trans hn)
  obtain ⟨kY, hkY, -⟩ := className_of_methodNamed hn
  have hinitY : kY.init = .initialized := Cond.initialized_spec (findClass_of_methodNamed hn) hkY h3
  have h : At U g.method c below := by rw [hg]; exact X.here
  have hlocals9 : W9 + (maxL + 11) + (headSpec ws rm).room.locals ≤ R.locals := hlocals
  have happ : (headSpec ws rm).appliesLoose y e.platform (U.calling g mk a) = true :=
    Spec.appliesLoose_calling (g := g) h hdg hn hkY hinitY
      (X.room_calling (g := g) (R' := (headSpec ws rm).room) hsize hmY hcY hframes (by rw [hlY]; omega) h4 h5) h1
  obtain ⟨mid, hmid⟩ := h.above
  have hfr : (U.setTop g).frames = (.java g :: mid) ++ below := by rw [State.frames_setTop' g h.top, hmid]; rfl
  obtain ⟨o, s₂, hsteps, -, hend, hq⟩ := Steps.callFree hM p X.admits X.cas X.clock (acts := []) hfr happ hPc trivial
  have hq' : vx_Q Qc XC mc ms free a (U.calling g mk a) o s₂ := hq
  rw [State.frames_setTop' g h.top] at hend
  obtain ⟨g₀, hg0⟩ := Option.isSome_iff_exists.mp h.top
  obtain ⟨r, hr⟩ := State.topJava?_eq_some.mp hg0
  have hr' : (({ U with heap := s₂.heap, slotsUsed := s₂.slotsUsed } : State).setVm s₂.vm).frames = .java g₀ :: r := hr
  rcases hq' with ⟨hqc, L, hfe, hL⟩ | ⟨q, rfl, E, ce, L, hx, hce, hcv, hcl, hW₂, hsm, hL⟩
  · obtain ⟨⟨v, rfl⟩, hW₂, e2, q2, q3, q4, q5, q6⟩ := id hfe
    have e3 : s₂ = ({ (U.calling g mk a).setFrames s₂.frames with heap := s₂.heap, slotsUsed := s₂.slotsUsed } : State).setVm s₂.vm := by
      have : s₂ = ({ s₂ with vm := (U.calling g mk a).vm } : State).setVm s₂.vm := rfl
      rw [e2] at this
      exact this
    obtain ⟨c₂, i₂, len₂, hc₂, hd₂, hf₂⟩ := hend
    have hW' : U.WarmedH s₂.vm := hW₂
    have hcc : c₂ = c := by
      have h1 : s₂.code? g.method = U.code? g.method := by
        rw [State.code?_eq, State.code?_eq, hW'.alike.method?]
      exact Option.some.inj (hc₂.symm.trans (h1.trans h.code))
    subst hcc
    have hlen : len₂ = len := by rw [hdg] at hd₂; cases hd₂; rfl
    subst hlen
    have hs₂ : s₂ = (({ U with heap := s₂.heap, slotsUsed := s₂.slotsUsed } : State).setVm s₂.vm).setTop { g with pc := g.pc + len₂, stack := v.toList ++ g.stack } := by
      refine e3.trans ?_
      rw [hf₂, State.calling_eq h.top, State.setFrames_setFrames, State.setTop_of_frames _ hr', hr]
      rfl
    have hsame : U.sameButNew ({ U with heap := s₂.heap, slotsUsed := s₂.slotsUsed } : State) L mc ms := by
      refine ⟨?_, q2, q3, q4, q5, q6⟩
      obtain ⟨t, ht, -⟩ := State.frames_cons hr
      show ({ U with heap := s₂.heap, slotsUsed := s₂.slotsUsed } : State) = { U.setFrames U.frames with heap := s₂.heap, slotsUsed := s₂.slotsUsed }
      rw [State.setFrames_self ht]
    subst hg
    refine Or.inl ⟨v, ⟨(({ U with heap := s₂.heap, slotsUsed := s₂.slotsUsed } : State).setVm s₂.vm), Ls ++ L, c0 + mc, s0 + ms⟩,
      ⟨X.admits, X.cas, X.clock, X.frames, X.room, X.hears, X.method, X.code, (X.here.setHeapUsed s₂.heap s₂.slotsUsed).setVm hW'.alike, X.tail, State.WarmedH.trans X.warmed hW', X.limits, X.bytes, X.same.trans (hsame.setVm s.vm)⟩,
      ⟨g, mk, s₂, L, rfl, rfl, hqc, rfl, hL, rfl, rfl⟩, ?_⟩
    show Steps p.tables e below _ ((({ U with heap := s₂.heap, slotsUsed := s₂.slotsUsed } : State).setVm s₂.vm).setTop { g with pc := g.pc + len₂, stack := v.toList ++ g.stack })
    rw [← hs₂]
    exact hsteps
  · obtain ⟨e2, q2, q3, q4, q5, q6⟩ := id hsm
    have e3 : s₂ = ({ (U.calling g mk a).setFrames s₂.frames with heap := s₂.heap, slotsUsed := s₂.slotsUsed } : State).setVm s₂.vm := by
      have : s₂ = ({ s₂ with vm := (U.calling g mk a).vm } : State).setVm s₂.vm := rfl
      rw [e2] at this
      exact this
    have hf₂ : s₂.frames = .throwing q :: .java g :: U.frames.tail := hend
    have hW' : U.WarmedH s₂.vm := hW₂
    have hs₂ : s₂ = ((({ U with heap := s₂.heap, slotsUsed := s₂.slotsUsed } : State).setVm s₂.vm).setTop g).pushFrame (.throwing q) := by
      refine e3.trans ?_
      rw [hf₂, State.calling_eq h.top, State.setFrames_setFrames, State.pushFrame, State.frames_setTop _ hr', State.setTop_of_frames _ hr', State.setFrames_setFrames, hr]
      rfl
    have hsame : U.sameButNew ({ U with heap := s₂.heap, slotsUsed := s₂.slotsUsed } : State) L mc ms := by
      refine ⟨?_, q2, q3, q4, q5, q6⟩
      obtain ⟨t, ht, -⟩ := State.frames_cons hr
      show ({ U with heap := s₂.heap, slotsUsed := s₂.slotsUsed } : State) = { U.setFrames U.frames with heap := s₂.heap, slotsUsed := s₂.slotsUsed }
      rw [State.setFrames_self ht]
    subst hg
    refine Or.inr ⟨q, ⟨(({ U with heap := s₂.heap, slotsUsed := s₂.slotsUsed } : State).setVm s₂.vm), Ls ++ L, c0 + mc, s0 + ms⟩,
      ⟨X.admits, X.cas, X.clock, X.frames, X.room, X.hears, X.method, X.code, (X.here.setHeapUsed s₂.heap s₂.slotsUsed).setVm hW'.alike, X.tail, State.WarmedH.trans X.warmed hW', X.limits, X.bytes, X.same.trans (hsame.setVm s.vm)⟩,
      ⟨g, mk, s₂, L, E, ce, rfl, rfl, hx, hce, hcv, hcl, rfl, hL, rfl, rfl⟩, ?_⟩
    show Steps p.tables e below _ (((({ U with heap := s₂.heap, slotsUsed := s₂.slotsUsed } : State).setVm s₂.vm).setTop g).pushFrame (.throwing q))
    rw [← hs₂]
    exact hsteps
end
variable {p : Program} {l : Launch} {e : Env} {R : Room} {s : State} {m : MethodId} {args : Array Value} {below : List Frame} {meth : Method} {c : Code} {T : State} {H : Heap} {locs : List Loc} {cells slots : Nat}
theorem vx_callVX (X : Stand p l e R s m args below meth c T locs cells slots) (hexec : p.tables.exec = Jvm.exec) {own C : String} {index : Nat} {y : MethodName} {bytes : ByteArray} {maxL : Nat} {ret : Option FieldType} {hh : List (Nat × Nat × Nat × Nat)}
    (hown : s.vm.findClass own = some m.cls) (hlink : (Cond.methodLink own index y).before args s = true) (hinst : (Cond.instanceMethod y).before args s = true) (hsel : (Cond.selects C y y).before args s = true)
    (hcode : (Cond.codeWith y bytes maxL ret hh).before args s = true) (hy : y.cls ≠ "java/lang/invoke/MethodHandle" ∧ y.cls ≠ "java/lang/invoke/VarHandle")
    {W9 : Nat} {Pre : Pt → Array Value → Prop} {Post : Pt → Array Value → Option Value → Pt → Prop} {PostX : Pt → Array Value → Addr → Pt → Prop} (hK : vx_Back l R p e below s args y 3 W9 Pre Post PostX)
    {b : Addr} {cellB : Cell} (hcell : T.heap[b]? = some cellB) (hobj : cellB.vm.isStatics = false) (hcls : s.vm.findClass C = some cellB.cls)
    {g : JFrame} (hg : g.method = m) (hsize : g.locals.size = c.maxLocals) {argsL rest : List Value} (hlen : ∀ sig, parseMethodDescriptor y.desc = some sig → argsL.length = sig.parameters.length)
    (hstack : g.stack = argsL.reverse ++ .ref b :: rest) (hW : 2 * g.monitorRoom + (rest.map fun v => v.category).sum ≤ W9) (hdg : decode c.code g.pc = .ok (.invokevirtual index, 3))
    (hpre : ∀ vm₁, s.WarmedH vm₁ → Pre ⟨T.setVm vm₁, locs, cells, slots⟩ (Value.ref b :: argsL).toArray) :
    (∃ (v : Option Value) (vm₁ : Vm) (B : Pt), s.WarmedH vm₁ ∧ Stand p l e R s m args below meth c B.U B.locs B.cells B.slots ∧ Post ⟨T.setVm vm₁, locs, cells, slots⟩ (Value.ref b :: argsL).toArray v B ∧
      ∀ target, Steps p.tables e below (B.U.setTop { g with pc := g.pc + 3, stack := v.toList ++ rest }) target → Steps p.tables e below (T.setTop g) target) ∨
    (∃ (q : Addr) (vm₁ : Vm) (B : Pt), s.WarmedH vm₁ ∧ Stand p l e R s m args below meth c B.U B.locs B.cells B.slots ∧ PostX ⟨T.setVm vm₁, locs, cells, slots⟩ (Value.ref b :: argsL).toArray q B ∧
      Steps p.tables e below (T.setTop g) ((B.U.setTop { g with stack := rest }).pushFrame (.throwing q))) := by
  obtain ⟨mk, methM, hnamed, hmethM, hstM, habM⟩ := Cond.instanceMethod_spec hinst
  obtain ⟨m8, methM', cM, hn8, hmethM', -, -, -, -, -, -, hsigM⟩ := Cond.codeWith_spec hcode
  cases Option.some.inj (hn8.symm.trans hnamed)
  cases hmethM.symm.trans hmethM'
  obtain ⟨c2, r2, m2, q1, q2, q3, q4, kP, hkP, hkPi⟩ := Cond.selects_spec hsel
  cases hcls.symm.trans q1
  cases (State.methodFound?_of_named hnamed hy).symm.trans q2
  cases hnamed.symm.trans q3
  have hselP : selectMethod e.platform s.vm cellB.cls mk = .method mk := by rw [Launch.admits_selectMethod X.admits]; exact q4
  obtain ⟨vm₁, X₁, hstep₁⟩ := X.invokevirtual hexec hown hlink hnamed hmethM hstM hkP hkPi hy (a := b) (cell := cellB) hcell
    (fun z h => by rw [h] at hobj; cases hobj) hselP hmethM habM hkP hkPi (g := g) hg (argsL := argsL) (rest := rest) (hlen _ hsigM) hstack hdg
  rcases hK m meth c ⟨T.setVm vm₁, locs, cells, slots⟩ { g with stack := rest } (.invokevirtual index) mk (Value.ref b :: argsL).toArray X₁ hg hsize hdg hW (X₁.named hnamed) (hpre vm₁ X₁.warmed) with ⟨v, B, X', hpost, hsteps⟩ | ⟨q, B, X', hpost, hsteps⟩
  · exact Or.inl ⟨v, vm₁, B, X₁.warmed, X', hpost, fun target h => hstep₁ _ fun acts => by rw [doInvoke_state]; exact hsteps.trans h⟩
  · exact Or.inr ⟨q, vm₁, B, X₁.warmed, X', hpost, hstep₁ _ fun acts => by rw [doInvoke_state]; exact hsteps⟩
theorem vx_callSX (X : Stand p l e R s m args below meth c T locs cells slots) (hexec : p.tables.exec = Jvm.exec) {own : String} {index : Nat} {y : MethodName} {bytes : ByteArray} {maxL : Nat} {ret : Option FieldType} {hh : List (Nat × Nat × Nat × Nat)}
    (hown : s.vm.findClass own = some m.cls) (hlink : (Cond.methodLink own index y).before args s = true) (hstat : (Cond.static y).before args s = true) (hinit : (Cond.initialized y.cls).before args s = true)
    (hcode : (Cond.codeWith y bytes maxL ret hh).before args s = true) (hy : y.cls ≠ "java/lang/invoke/MethodHandle" ∧ y.cls ≠ "java/lang/invoke/VarHandle")
    {W9 : Nat} {Pre : Pt → Array Value → Prop} {Post : Pt → Array Value → Option Value → Pt → Prop} {PostX : Pt → Array Value → Addr → Pt → Prop} (hK : vx_Back l R p e below s args y 3 W9 Pre Post PostX)
    {g : JFrame} (hg : g.method = m) (hsize : g.locals.size = c.maxLocals) {argsL rest : List Value} (hlen : ∀ sig, parseMethodDescriptor y.desc = some sig → argsL.length = sig.parameters.length)
    (hstack : g.stack = argsL.reverse ++ rest) (hW : 2 * g.monitorRoom + (rest.map fun v => v.category).sum ≤ W9) (hdg : decode c.code g.pc = .ok (.invokestatic index, 3))
    (hpre : ∀ vm₁, s.WarmedH vm₁ → Pre ⟨T.setVm vm₁, locs, cells, slots⟩ argsL.toArray) :
    (∃ (v : Option Value) (vm₁ : Vm) (B : Pt), s.WarmedH vm₁ ∧ Stand p l e R s m args below meth c B.U B.locs B.cells B.slots ∧ Post ⟨T.setVm vm₁, locs, cells, slots⟩ argsL.toArray v B ∧
      ∀ target, Steps p.tables e below (B.U.setTop { g with pc := g.pc + 3, stack := v.toList ++ rest }) target → Steps p.tables e below (T.setTop g) target) ∨
    (∃ (q : Addr) (vm₁ : Vm) (B : Pt), s.WarmedH vm₁ ∧ Stand p l e R s m args below meth c B.U B.locs B.cells B.slots ∧ PostX ⟨T.setVm vm₁, locs, cells, slots⟩ argsL.toArray q B ∧
      Steps p.tables e below (T.setTop g) ((B.U.setTop { g with stack := rest }).pushFrame (.throwing q))) := by
  obtain ⟨mk, methM, cM, hnamed, hmethM, -, -, -, -, -, -, hsigM⟩ := Cond.codeWith_spec hcode
  have hstatic : methM.isStatic = true := Cond.static_spec hnamed hmethM hstat
  obtain ⟨kP, hkP, -⟩ := className_of_methodNamed hnamed
  have hinitP : kP.init = .initialized := Cond.initialized_spec (findClass_of_methodNamed hnamed) hkP hinit
  obtain ⟨vm₁, X₁, hstep₁⟩ := X.invokestatic hexec hown hlink hnamed hmethM hstatic hkP hinitP hy (g := g) hg (argsL := argsL) (rest := rest) (hlen _ hsigM) hstack hdg
  rcases hK m meth c ⟨T.setVm vm₁, locs, cells, slots⟩ { g with stack := rest } (.invokestatic index) mk argsL.toArray X₁ hg hsize hdg hW (X₁.named hnamed) (hpre vm₁ X₁.warmed) with ⟨v, B, X', hpost, hsteps⟩ | ⟨q, B, X', hpost, hsteps⟩
  · exact Or.inl ⟨v, vm₁, B, X₁.warmed, X', hpost, fun target h => hstep₁ _ fun acts => by rw [doInvoke_state]; exact hsteps.trans h⟩
  · exact Or.inr ⟨q, vm₁, B, X₁.warmed, X', hpost, hstep₁ _ fun acts => by rw [doInvoke_state]; exact hsteps⟩
theorem vx_callVW (X : Stand p l e R s m args below meth c T locs cells slots) (hexec : p.tables.exec = Jvm.exec) {own C : String} {index : Nat} {y : MethodName} {bytes : ByteArray} {maxL : Nat} {ret : Option FieldType} {hh : List (Nat × Nat × Nat × Nat)}
    (hown : s.vm.findClass own = some m.cls) (hlink : (Cond.methodLink own index y).before args s = true) (hinst : (Cond.instanceMethod y).before args s = true) (hsel : (Cond.selects C y y).before args s = true)
    (hcode : (Cond.codeWith y bytes maxL ret hh).before args s = true) (hy : y.cls ≠ "java/lang/invoke/MethodHandle" ∧ y.cls ≠ "java/lang/invoke/VarHandle")
    {W9 : Nat} {Pre : Pt → Array Value → Prop} {Post : Pt → Array Value → Option Value → Pt → Prop} (hK : Back l R p e below s args y 3 W9 Pre Post)
    {b : Addr} {cellB : Cell} (hcell : T.heap[b]? = some cellB) (hobj : cellB.vm.isStatics = false) (hcls : s.vm.findClass C = some cellB.cls)
    {g : JFrame} (hg : g.method = m) (hsize : g.locals.size = c.maxLocals) {argsL rest : List Value} (hlen : ∀ sig, parseMethodDescriptor y.desc = some sig → argsL.length = sig.parameters.length)
    (hstack : g.stack = argsL.reverse ++ .ref b :: rest) (hW : 2 * g.monitorRoom + (rest.map fun v => v.category).sum ≤ W9) (hdg : decode c.code g.pc = .ok (.invokevirtual index, 3))
    (hpre : ∀ vm₁, s.WarmedH vm₁ → Pre ⟨T.setVm vm₁, locs, cells, slots⟩ (Value.ref b :: argsL).toArray) :
    ∃ (v : Option Value) (vm₁ : Vm) (B : Pt), s.WarmedH vm₁ ∧ Stand p l e R s m args below meth c B.U B.locs B.cells B.slots ∧ Post ⟨T.setVm vm₁, locs, cells, slots⟩ (Value.ref b :: argsL).toArray v B ∧
      ∀ target, Steps p.tables e below (B.U.setTop { g with pc := g.pc + 3, stack := v.toList ++ rest }) target → Steps p.tables e below (T.setTop g) target := by
  obtain ⟨mk, methM, hnamed, hmethM, hstM, habM⟩ := Cond.instanceMethod_spec hinst
  obtain ⟨m8, methM', cM, hn8, hmethM', -, -, -, -, -, -, hsigM⟩ := Cond.codeWith_spec hcode
  cases Option.some.inj (hn8.symm.trans hnamed)
  cases hmethM.symm.trans hmethM'
  obtain ⟨c2, r2, m2, q1, q2, q3, q4, kP, hkP, hkPi⟩ := Cond.selects_spec hsel
  cases hcls.symm.trans q1
  cases (State.methodFound?_of_named hnamed hy).symm.trans q2
  cases hnamed.symm.trans q3
  have hselP : selectMethod e.platform s.vm cellB.cls mk = .method mk := by rw [Launch.admits_selectMethod X.admits]; exact q4
  obtain ⟨vm₁, X₁, hstep₁⟩ := X.invokevirtual hexec hown hlink hnamed hmethM hstM hkP hkPi hy (a := b) (cell := cellB) hcell
    (fun z h => by rw [h] at hobj; cases hobj) hselP hmethM habM hkP hkPi (g := g) hg (argsL := argsL) (rest := rest) (hlen _ hsigM) hstack hdg
  obtain ⟨v, B, X', hpost, hsteps⟩ := hK m meth c ⟨T.setVm vm₁, locs, cells, slots⟩ { g with stack := rest } (.invokevirtual index) mk (Value.ref b :: argsL).toArray X₁ hg hsize hdg hW (X₁.named hnamed) (hpre vm₁ X₁.warmed)
  exact ⟨v, vm₁, B, X₁.warmed, X', hpost, fun target h => hstep₁ _ fun acts => by rw [doInvoke_state]; exact hsteps.trans h⟩
abbrev vx_CVW (R : Room) (s : State) (args : Array Value) (own C : String) (index : Nat) (y : MethodName) (bytes : ByteArray) (maxL : Nat) (ret : Option FieldType) (hh : List (Nat × Nat × Nat × Nat)) (ws : List Cond) (rm : Room) (mc ms n : Nat) : Prop :=
  (rm.cells = mc ∧ rm.slots = ms ∧ rm.frames + 1 ≤ R.frames ∧ 8 + (maxL + 11) + rm.locals ≤ R.locals ∧ (∀ w ∈ ws, ∀ (a' : Array Value) (U : State), s.WarmedH U.vm → w.before a' U = true) ∧ Cond.codeWith y bytes maxL ret hh ∈ ws) ∧
  (Cond.codeWith y bytes maxL ret hh).before args s = true ∧ (Cond.initialized y.cls).before args s = true ∧ (y.cls ≠ "java/lang/invoke/MethodHandle" ∧ y.cls ≠ "java/lang/invoke/VarHandle") ∧
  (∀ sig, parseMethodDescriptor y.desc = some sig → n = sig.parameters.length) ∧ (Cond.methodLink own index y).before args s = true ∧ (Cond.instanceMethod y).before args s = true ∧ (Cond.selects C y y).before args s = true
theorem vx_cwVW {own C : String} {index maxL mc ms : Nat} {y : MethodName} {bytes : ByteArray} {ret : Option FieldType} {hh : List (Nat × Nat × Nat × Nat)} {Ts ws ws' : List Cond} {rm : Room} (n : Nat) (ht : ∀ w ∈ Ts, w.before args s = true) (hT : GoodIn Ts (wsV own index C y ws)) (hw : ws = Cond.codeWith y bytes maxL ret hh :: ws') (hrc : rm.cells = mc) (hrs : rm.slots = ms)
    (hd : y.cls = C ∧ y.cls ≠ "java/lang/invoke/MethodHandle" ∧ y.cls ≠ "java/lang/invoke/VarHandle" ∧ (parseMethodDescriptor y.desc).map (fun d => d.parameters.length) = some n) (hR : rm.frames + 1 ≤ R.frames ∧ 8 + (maxL + 11) + rm.locals ≤ R.locals) :
    vx_CVW R s args own C index y bytes maxL ret hh ws rm mc ms n := by
  obtain ⟨hC, hd⟩ := hd
  subst hC
  have ok : ∀ w ∈ wsV own index y.cls y ws, w.before args s = true := fun w h => ht w (hT w h).1
  have hG : GoodIn Ts ws := fun w h => hT w (by unfold wsV; exact List.mem_append_right _ h)
  have hc : Cond.codeWith y bytes maxL ret hh ∈ ws := by rw [hw]; exact List.mem_cons_self
  refine ⟨⟨hrc, hrs, hR.1, hR.2, pay_in ht hG, hc⟩, ht _ (hG _ hc).1, ok _ (by simp [wsV]), ⟨hd.1, hd.2.1⟩, fun sig h => ?_, ok _ (by simp [wsV]), ok _ (by simp [wsV]), ok _ (by simp [wsV])⟩
  have h2 := hd.2.2
  rw [h] at h2
  exact (Option.some.inj h2).symm
theorem vx_runVW {y : MethodName} {bytes cc : ByteArray} {maxL nL mc ms n index : Nat} {ret : Option FieldType} {hh : List (Nat × Nat × Nat × Nat)} {ws : List Cond} {rm : Room} {Pc : Array Value → State → Prop} {Qc : Array Value → State → Outcome → State → Prop} {free : Addr → Prop} {Ts : List Cond} {own C : String} {b : Addr} {As rest : List Value} {g : JFrame}
    (S : CallFix p m c cc nL s args Ts own) (hM : Met l y ws rm Pc Qc mc ms free) (cw : vx_CVW R s args own C index y bytes maxL ret hh ws rm mc ms n) (hp : PreV s H C b Pc As)
    (hg : g.method = m) (hn : As.length = n) (hsize : g.locals.size = nL) (hstack : g.stack = As.reverse ++ .ref b :: rest) (hW : 2 * g.monitorRoom + (rest.map fun v => v.category).sum ≤ 8) (hdg : decode cc g.pc = .ok (.invokevirtual index, 3)) (hf : cells + mc ≤ R.cells ∧ slots + ms ≤ R.slots) :
    va_Run p l e R s m args below meth c H locs cells slots mc ms g rest (Qc (Value.ref b :: As).toArray) free := by
  obtain ⟨⟨hrc, hrs, hfr, hlo, hws, hcw⟩, hcode, hini, hy, hlen, hl, hin, hse⟩ := cw
  have hK : Back l R p e below s args y 3 8 (PreOf R mc ms Pc) (PostOf Qc mc ms free) := va_backW (hh := hh) (bytes := bytes) (maxL := maxL) (ret := ret) hM hp.1 hrc hrs hfr hlo hws hcw (fun a' U hW => word_at hW (Or.inl (by first | rfl | simp [Cond.onTables, Cond.keeps, Cond.steady])) hini)
  obtain ⟨hx, hb, hml, ho, -⟩ := S
  obtain ⟨-, ⟨cellB, hcB, hoB, hclB⟩, hPc⟩ := hp
  intro T hT X
  obtain ⟨v, vm₁, ⟨U', l2, c2, s2⟩, hW₁, X', ⟨g', mk, t, L, e1, e2, hq, h1, hL, h2, h3⟩, st⟩ := vx_callVW X hx (C := C) (hh := hh) (bytes := bytes) (maxL := maxL) (ret := ret) ho hl hin hse hcode hy hK (by rw [hT]; exact hcB) hoB hclB hg (hsize.trans hml.symm) (argsL := As) (rest := rest) (fun sig h => hn.trans (hlen sig h)) hstack hW (by rw [hb]; exact hdg)
    (fun vm₁ hW₁ => ⟨hf.1, hf.2, hPc (T.setVm vm₁) hT hW₁⟩)
  dsimp only [Pt.U, Pt.locs, Pt.cells, Pt.slots] at X' e1 e2 h1 h2 h3 st
  subst h1; subst h2; subst h3
  exact ⟨v, (T.setVm vm₁).calling g' mk (Value.ref b :: As).toArray, t, U', L, hT, X', hL, e1, e2, hq, st⟩
section
variable {y : MethodName} {bytes cc : ByteArray} {maxL nL mc ms n index : Nat} {ret : Option FieldType} {ws : List Cond} {rm : Room} {Pc : Array Value → State → Prop} {Qc : Array Value → State → Outcome → State → Prop} {XC : String → State → State → Prop} {free : Addr → Prop} {Ts : List Cond} {own C : String} {b : Addr} {As rest : List Value} {g : JFrame}
theorem vx_runVX {hh : List (Nat × Nat × Nat × Nat)} (S : CallFix p m c cc nL s args Ts own) (hM : vx_Met l y ws rm Pc Qc XC mc ms free) (cw : vx_CVW R s args own C index y bytes maxL ret hh ws rm mc ms n) (hp : PreV s H C b Pc As)
    (hg : g.method = m) (hn : As.length = n) (hsize : g.locals.size = nL) (hstack : g.stack = As.reverse ++ .ref b :: rest) (hW : 2 * g.monitorRoom + (rest.map fun v => v.category).sum ≤ 8) (hdg : decode cc g.pc = .ok (.invokevirtual index, 3)) (hf : cells + mc ≤ R.cells ∧ slots + ms ≤ R.slots) :
    vx_Run p l e R s m args below meth c H locs cells slots mc ms g rest (Qc (Value.ref b :: As).toArray) XC free := by
  obtain ⟨⟨hrc, hrs, hfr, hlo, hws, hcw⟩, hcode, hini, hy, hlen, hl, hin, hse⟩ := cw
  have hK : vx_Back l R p e below s args y 3 8 (PreOf R mc ms Pc) (PostOf Qc mc ms free) (vx_Post XC mc ms free) := vx_backW (hh := hh) (bytes := bytes) (maxL := maxL) (ret := ret) hM hp.1 hrc hrs hfr hlo hws hcw (fun a' U hW => word_at hW (Or.inl (by first | rfl | simp [Cond.onTables, Cond.keeps, Cond.steady])) hini)
  obtain ⟨hx, hb, hml, ho, -⟩ := S
  obtain ⟨-, ⟨cellB, hcB, hoB, hclB⟩, hPc⟩ := hp
  intro T hT X
  rcases vx_callVX X hx (C := C) (hh := hh) (bytes := bytes) (maxL := maxL) (ret := ret) ho hl hin hse hcode hy hK (by rw [hT]; exact hcB) hoB hclB hg (hsize.trans hml.symm) (argsL := As) (rest := rest) (fun sig h => hn.trans (hlen sig h)) hstack hW (by rw [hb]; exact hdg)
    (fun vm₁ hW₁ => ⟨hf.1, hf.2, hPc (T.setVm vm₁) hT hW₁⟩) with ⟨v, vm₁, ⟨U', l2, c2, s2⟩, hW₁, X', ⟨g', mk, t, L, e1, e2, hq, h1, hL, h2, h3⟩, st⟩ | ⟨q, vm₁, ⟨U', l2, c2, s2⟩, hW₁, X', ⟨g', mk, t, L, E, ce, e1, e2, hq, hce, hcv, hcl, h1, hL, h2, h3⟩, st⟩
  · dsimp only [Pt.U, Pt.locs, Pt.cells, Pt.slots] at X' e1 e2 h1 h2 h3 st
    subst h1; subst h2; subst h3
    exact Or.inl ⟨v, (T.setVm vm₁).calling g' mk (Value.ref b :: As).toArray, t, U', L, hT, X', hL, e1, e2, hq, st⟩
  · dsimp only [Pt.U, Pt.locs, Pt.cells, Pt.slots] at X' e1 e2 h1 h2 h3 st hcl
    subst h1; subst h2; subst h3
    exact Or.inr ⟨q, (T.setVm vm₁).calling g' mk (Value.ref b :: As).toArray, t, U', L, E, ce, hT, X', hL, e1, e2, hq, hce, hcv, vx_cls hW₁ hcl, st⟩
theorem vx_runSX {hh : List (Nat × Nat × Nat × Nat)} (S : CallFix p m c cc nL s args Ts own) (hM : vx_Met l y ws rm Pc Qc XC mc ms free) (cw : vx_CSW R s args own index y bytes maxL ret hh ws rm mc ms n) (hp : PreS s H Pc As)
    (hg : g.method = m) (hn : As.length = n) (hsize : g.locals.size = nL) (hstack : g.stack = As.reverse ++ rest) (hW : 2 * g.monitorRoom + (rest.map fun v => v.category).sum ≤ 8) (hdg : decode cc g.pc = .ok (.invokestatic index, 3)) (hf : cells + mc ≤ R.cells ∧ slots + ms ≤ R.slots) :
    vx_Run p l e R s m args below meth c H locs cells slots mc ms g rest (Qc As.toArray) XC free := by
  obtain ⟨⟨hrc, hrs, hfr, hlo, hws, hcw⟩, hcode, hini, hy, hlen, hl, hstt⟩ := cw
  have hK : vx_Back l R p e below s args y 3 8 (PreOf R mc ms Pc) (PostOf Qc mc ms free) (vx_Post XC mc ms free) := vx_backW (hh := hh) (bytes := bytes) (maxL := maxL) (ret := ret) hM hp.1 hrc hrs hfr hlo hws hcw (fun a' U hW => word_at hW (Or.inl (by first | rfl | simp [Cond.onTables, Cond.keeps, Cond.steady])) hini)
  obtain ⟨hx, hb, hml, ho, -⟩ := S
  intro T hT X
  rcases vx_callSX X hx (hh := hh) (bytes := bytes) (maxL := maxL) (ret := ret) ho hl hstt hini hcode hy hK hg (hsize.trans hml.symm) (argsL := As) (rest := rest) (fun sig h => hn.trans (hlen sig h)) hstack hW (by rw [hb]; exact hdg)
    (fun vm₁ hW₁ => ⟨hf.1, hf.2, hp.2 (T.setVm vm₁) hT hW₁⟩) with ⟨v, vm₁, ⟨U', l2, c2, s2⟩, hW₁, X', ⟨g', mk, t, L, e1, e2, hq, h1, hL, h2, h3⟩, st⟩ | ⟨q, vm₁, ⟨U', l2, c2, s2⟩, hW₁, X', ⟨g', mk, t, L, E, ce, e1, e2, hq, hce, hcv, hcl, h1, hL, h2, h3⟩, st⟩
  · dsimp only [Pt.U, Pt.locs, Pt.cells, Pt.slots] at X' e1 e2 h1 h2 h3 st
    subst h1; subst h2; subst h3
    exact Or.inl ⟨v, (T.setVm vm₁).calling g' mk As.toArray, t, U', L, hT, X', hL, e1, e2, hq, st⟩
  · dsimp only [Pt.U, Pt.locs, Pt.cells, Pt.slots] at X' e1 e2 h1 h2 h3 st hcl
    subst h1; subst h2; subst h3
    exact Or.inr ⟨q, (T.setVm vm₁).calling g' mk As.toArray, t, U', L, E, ce, hT, X', hL, e1, e2, hq, hce, hcv, vx_cls hW₁ hcl, st⟩
end
end VXH
theorem vx_ofWH {l : Launch} {y : MethodName} {ws ws' : List Cond} {rm : Room} {Pc : Array Value → State → Prop} {Qc : Array Value → State → Outcome → State → Prop} {XC : String → State → State → Prop} {mc ms : Nat} {free : Addr → Prop} {cc : ByteArray} {maxL : Nat} {ret : Option FieldType} {hh : List (Nat × Nat × Nat × Nat)}
    (hy : plainName y.cls = true) (hw : ws = Cond.codeWith y cc maxL ret hh :: ws')
    (body : ∀ p e s m args below meth c s₁, BodyLoose p l y (headSpec ws rm) cc maxL ret e s m args below meth c s₁ → c.maxLocals = maxL → Pc args s →
      W p l e (headSpec ws rm).room s m args below meth c s.heap [] 0 0 (vx_MQ below Qc XC args s mc ms free) (entryFrame m args maxL)) : vx_Met l y ws rm Pc Qc XC mc ms free := by
  refine MetFree.of_bodyS (code := cc) (maxLocals := maxL) (ret := ret) hy ?_ ?_
  · intro args s m h hn
    obtain ⟨m9, meth, c, hn9, h1, h2, h3, h4, -, h5, h6, -⟩ := Cond.codeWith_spec (atoms_spec (ws := ws) h _ (by rw [hw]; exact List.mem_cons_self))
    cases hn.symm.trans hn9
    exact ⟨meth, c, h1, h2, h3, h4, h5, h6⟩
  · intro p e s m args below meth c s₁ B hml hP _
    have hh0 : s₁.heap = s.heap := by rw [B.state]; rfl
    obtain ⟨t, a1, o, b1, b2, b3⟩ := body p e s m args below meth c s₁ B hml hP s₁ hh0 (Stand.of_body B)
    exact ⟨t, o, a1, b1, b2, b3⟩
/-! ===== END ===== -/
end
section
abbrev R_Paper : String := "PlaceFinder$Paper"
abbrev R_Place : String := "PlaceFinder$Place"
abbrev R_List : String := "PlaceFinder$PlaceList"
abbrev R_Search : String := "PlaceFinder$Search"
abbrev R_PF : String := "PlaceFinder"
abbrev R_Model : String := "PlaceFinderModel"
abbrev R_Law : String := "PlaceFinderLaw"
abbrev R_Long : String := "java/lang/Long"
abbrev R_Arrays : String := "java/util/Arrays"
def T_Paper : u_T := fun k => match k with
  | 0 => ("PlaceFinder$Paper", "width", "I", false)
  | 1 => ("PlaceFinder$Paper", "height", "I", false)
  | 2 => ("PlaceFinder$Paper", "words", "[J", true)
  | 3 => ("PlaceFinder$Paper", "sums", "[I", true)
  | _ => ("PlaceFinder$Paper", "summedRows", "I", false)
def t_Paper : Nat → FieldType := fun k => match k with
  | 0 => .int
  | 1 => .int
  | 2 => .array .long
  | 3 => .array .int
  | _ => .int
theorem n_Paper : ∀ a, a < 5 → ∀ b, b < 5 → a ≠ b → (T_Paper a).2.1 ≠ (T_Paper b).2.1 := by decide +kernel
theorem t_Paper_ok : ∀ k, k < 5 → parseFieldDescriptor (T_Paper k).2.2.1 = some (t_Paper k) := by decide +kernel
def T_Place : u_T := fun k => match k with
  | 0 => ("PlaceFinder$Place", "left", "I", true)
  | 1 => ("PlaceFinder$Place", "top", "I", true)
  | 2 => ("PlaceFinder$Place", "module", "I", true)
  | 3 => ("PlaceFinder$Place", "size", "I", true)
  | _ => ("PlaceFinder$Place", "quarter", "I", true)
def t_Place : Nat → FieldType := fun k => match k with
  | 0 => .int
  | 1 => .int
  | 2 => .int
  | 3 => .int
  | _ => .int
theorem n_Place : ∀ a, a < 5 → ∀ b, b < 5 → a ≠ b → (T_Place a).2.1 ≠ (T_Place b).2.1 := by decide +kernel
theorem t_Place_ok : ∀ k, k < 5 → parseFieldDescriptor (T_Place k).2.2.1 = some (t_Place k) := by decide +kernel
def T_List : u_T := fun k => match k with
  | 0 => ("PlaceFinder$PlaceList", "keys", "[I", true)
  | 1 => ("PlaceFinder$PlaceList", "wrongs", "[I", true)
  | _ => ("PlaceFinder$PlaceList", "count", "I", false)
def t_List : Nat → FieldType := fun k => match k with
  | 0 => .array .int
  | 1 => .array .int
  | _ => .int
theorem n_List : ∀ a, a < 3 → ∀ b, b < 3 → a ≠ b → (T_List a).2.1 ≠ (T_List b).2.1 := by decide +kernel
theorem t_List_ok : ∀ k, k < 3 → parseFieldDescriptor (T_List k).2.2.1 = some (t_List k) := by decide +kernel
def T_Search : u_T := fun k => match k with
  | 0 => ("PlaceFinder$Search", "paper", "LPlaceFinder$Paper;", true)
  | 1 => ("PlaceFinder$Search", "standing", "LPlaceFinder$PlaceList;", true)
  | 2 => ("PlaceFinder$Search", "limit", "I", false)
  | 3 => ("PlaceFinder$Search", "third", "I", false)
  | 4 => ("PlaceFinder$Search", "module", "I", false)
  | 5 => ("PlaceFinder$Search", "size", "I", false)
  | 6 => ("PlaceFinder$Search", "tooMany", "Z", false)
  | 7 => ("PlaceFinder$Search", "tileX", "I", false)
  | 8 => ("PlaceFinder$Search", "tileY", "I", false)
  | 9 => ("PlaceFinder$Search", "spreadX", "I", false)
  | 10 => ("PlaceFinder$Search", "spreadY", "I", false)
  | 11 => ("PlaceFinder$Search", "quarterFloors", "[I", true)
  | 12 => ("PlaceFinder$Search", "known", "[J", true)
  | _ => ("PlaceFinder$Search", "stamp", "I", false)
def t_Search : Nat → FieldType := fun k => match k with
  | 0 => .object "PlaceFinder$Paper"
  | 1 => .object "PlaceFinder$PlaceList"
  | 2 => .int
  | 3 => .int
  | 4 => .int
  | 5 => .int
  | 6 => .boolean
  | 7 => .int
  | 8 => .int
  | 9 => .int
  | 10 => .int
  | 11 => .array .int
  | 12 => .array .long
  | _ => .int
theorem n_Search : ∀ a, a < 14 → ∀ b, b < 14 → a ≠ b → (T_Search a).2.1 ≠ (T_Search b).2.1 := by decide +kernel
theorem t_Search_ok : ∀ k, k < 14 → parseFieldDescriptor (T_Search k).2.2.1 = some (t_Search k) := by decide +kernel
def T_PF : u_T := fun k => match k with
  | 0 => ("PlaceFinder", "search", "LPlaceFinder$Search;", true)
  | 1 => ("PlaceFinder", "paper", "LPlaceFinder$Paper;", true)
  | 2 => ("PlaceFinder", "standing", "LPlaceFinder$PlaceList;", true)
  | _ => ("PlaceFinder", "leading", "LPlaceFinder$PlaceList;", true)
def t_PF : Nat → FieldType := fun k => match k with
  | 0 => .object "PlaceFinder$Search"
  | 1 => .object "PlaceFinder$Paper"
  | 2 => .object "PlaceFinder$PlaceList"
  | _ => .object "PlaceFinder$PlaceList"
theorem n_PF : ∀ a, a < 4 → ∀ b, b < 4 → a ≠ b → (T_PF a).2.1 ≠ (T_PF b).2.1 := by decide +kernel
theorem t_PF_ok : ∀ k, k < 4 → parseFieldDescriptor (T_PF k).2.2.1 = some (t_PF k) := by decide +kernel
def T_Model : u_T := fun k => match k with
  | 0 => ("PlaceFinderModel", "thrown", "I", false)
  | 1 => ("PlaceFinderModel", "width", "I", false)
  | 2 => ("PlaceFinderModel", "height", "I", false)
  | 3 => ("PlaceFinderModel", "dark", "[Z", true)
  | 4 => ("PlaceFinderModel", "sums", "[I", true)
  | 5 => ("PlaceFinderModel", "runs", "[I", true)
  | 6 => ("PlaceFinderModel", "runsOf", "I", false)
  | 7 => ("PlaceFinderModel", "stand", "[I", true)
  | 8 => ("PlaceFinderModel", "stood", "I", false)
  | 9 => ("PlaceFinderModel", "found", "[I", true)
  | _ => ("PlaceFinderModel", "many", "I", false)
def t_Model : Nat → FieldType := fun k => match k with
  | 0 => .int
  | 1 => .int
  | 2 => .int
  | 3 => .array .boolean
  | 4 => .array .int
  | 5 => .array .int
  | 6 => .int
  | 7 => .array .int
  | 8 => .int
  | 9 => .array .int
  | _ => .int
theorem n_Model : ∀ a, a < 11 → ∀ b, b < 11 → a ≠ b → (T_Model a).2.1 ≠ (T_Model b).2.1 := by decide +kernel
theorem t_Model_ok : ∀ k, k < 11 → parseFieldDescriptor (T_Model k).2.2.1 = some (t_Model k) := by decide +kernel
abbrev vwCl : List vw_C := [(R_Paper, T_Paper, 5), (R_Place, T_Place, 5), (R_List, T_List, 3), (R_Search, T_Search, 14), (R_PF, T_PF, 4), (R_Model, T_Model, 11)]
/-- the words of the tables that a callee may be handed -/
def allw : List Cond := lw_tbl.filter goodWord
theorem allw_of {w : Cond} (h : w ∈ lw_tbl) (g : goodWord w = true) : w ∈ allw := List.mem_filter.mpr ⟨h, g⟩
theorem allw_in {w : Cond} (h : w ∈ allw) : w ∈ lw_tbl := (List.mem_filter.mp h).1
theorem allw_good {w : Cond} (h : w ∈ allw) : (w.onTables && w.keeps) = true ∨ ∃ ty, w = .arrayClass ty := good_of_word (List.mem_filter.mp h).2
def y_PF_init : MethodName := ⟨"PlaceFinder", "<init>", "()V"⟩
abbrev b_PF_init : ByteArray := prog_1_method_1_code
def y_PF_sheet : MethodName := ⟨"PlaceFinder", "sheet", "(II)V"⟩
abbrev b_PF_sheet : ByteArray := prog_1_method_2_code
def y_PF_turn : MethodName := ⟨"PlaceFinder", "turn", "(IIJ)I"⟩
abbrev b_PF_turn : ByteArray := prog_1_method_3_code
def y_PF_fill : MethodName := ⟨"PlaceFinder", "fill", "(IIIIZ)I"⟩
abbrev b_PF_fill : ByteArray := prog_1_method_4_code
def y_PF_draw : MethodName := ⟨"PlaceFinder", "draw", "(III)I"⟩
abbrev b_PF_draw : ByteArray := prog_1_method_5_code
def y_PF_dots : MethodName := ⟨"PlaceFinder", "dots", "(II)J"⟩
abbrev b_PF_dots : ByteArray := prog_1_method_6_code
def y_PF_find : MethodName := ⟨"PlaceFinder", "find", "(III)I"⟩
abbrev b_PF_find : ByteArray := prog_1_method_7_code
def y_PF_stood : MethodName := ⟨"PlaceFinder", "stood", "()I"⟩
abbrev b_PF_stood : ByteArray := prog_1_method_8_code
def y_PF_place : MethodName := ⟨"PlaceFinder", "place", "(II)I"⟩
abbrev b_PF_place : ByteArray := prog_1_method_9_code
def y_PF_modules : MethodName := ⟨"PlaceFinder", "modules", "(III)J"⟩
abbrev b_PF_modules : ByteArray := prog_1_method_10_code
def y_PF_isWithin : MethodName := ⟨"PlaceFinder", "isWithin", "(III)Z"⟩
abbrev b_PF_isWithin : ByteArray := prog_1_method_11_code
def y_PF_isMostlyDark : MethodName := ⟨"PlaceFinder", "isMostlyDark", "(LPlaceFinder$Place;II)Z"⟩
abbrev b_PF_isMostlyDark : ByteArray := prog_1_method_12_code
def y_PF_drawFixed : MethodName := ⟨"PlaceFinder", "drawFixed", "(LPlaceFinder$Place;)I"⟩
abbrev b_PF_drawFixed : ByteArray := prog_1_method_13_code
def y_PF_drawCorner : MethodName := ⟨"PlaceFinder", "drawCorner", "(LPlaceFinder$Place;II)I"⟩
abbrev b_PF_drawCorner : ByteArray := prog_1_method_14_code
def y_PF_drawModule : MethodName := ⟨"PlaceFinder", "drawModule", "(LPlaceFinder$Place;IIZ)I"⟩
abbrev b_PF_drawModule : ByteArray := prog_1_method_15_code
def y_Model_init : MethodName := ⟨"PlaceFinderModel", "<init>", "()V"⟩
abbrev b_Model_init : ByteArray := prog_7_method_1_code
def y_Model_thrown : MethodName := ⟨"PlaceFinderModel", "thrown", "()I"⟩
abbrev b_Model_thrown : ByteArray := prog_7_method_2_code
def y_Model_isOn : MethodName := ⟨"PlaceFinderModel", "isOn", "(JJ)Z"⟩
abbrev b_Model_isOn : ByteArray := prog_7_method_3_code
def y_Model_isDark : MethodName := ⟨"PlaceFinderModel", "isDark", "(II)Z"⟩
abbrev b_Model_isDark : ByteArray := prog_7_method_4_code
def y_Model_forget : MethodName := ⟨"PlaceFinderModel", "forget", "()V"⟩
abbrev b_Model_forget : ByteArray := prog_7_method_5_code
def y_Model_sheet : MethodName := ⟨"PlaceFinderModel", "sheet", "(II)V"⟩
abbrev b_Model_sheet : ByteArray := prog_7_method_6_code
def y_Model_turn : MethodName := ⟨"PlaceFinderModel", "turn", "(IIJ)I"⟩
abbrev b_Model_turn : ByteArray := prog_7_method_7_code
def y_Model_fill : MethodName := ⟨"PlaceFinderModel", "fill", "(IIIIZ)I"⟩
abbrev b_Model_fill : ByteArray := prog_7_method_8_code
def y_Model_dots : MethodName := ⟨"PlaceFinderModel", "dots", "(II)J"⟩
abbrev b_Model_dots : ByteArray := prog_7_method_9_code
def y_Model_side : MethodName := ⟨"PlaceFinderModel", "side", "(I)I"⟩
abbrev b_Model_side : ByteArray := prog_7_method_10_code
def y_Model_apart : MethodName := ⟨"PlaceFinderModel", "apart", "(II)I"⟩
abbrev b_Model_apart : ByteArray := prog_7_method_11_code
def y_Model_distance : MethodName := ⟨"PlaceFinderModel", "distance", "(IIII)I"⟩
abbrev b_Model_distance : ByteArray := prog_7_method_12_code
def y_Model_module : MethodName := ⟨"PlaceFinderModel", "module", "(III)I"⟩
abbrev b_Model_module : ByteArray := prog_7_method_13_code
def y_Model_blockX : MethodName := ⟨"PlaceFinderModel", "blockX", "(IIII)I"⟩
abbrev b_Model_blockX : ByteArray := prog_7_method_14_code
def y_Model_blockY : MethodName := ⟨"PlaceFinderModel", "blockY", "(IIII)I"⟩
abbrev b_Model_blockY : ByteArray := prog_7_method_15_code
def y_Model_isPlace : MethodName := ⟨"PlaceFinderModel", "isPlace", "(III)Z"⟩
abbrev b_Model_isPlace : ByteArray := prog_7_method_16_code
def y_Model_differ : MethodName := ⟨"PlaceFinderModel", "differ", "(IIIZZ)I"⟩
abbrev b_Model_differ : ByteArray := prog_7_method_17_code
def y_Model_draw : MethodName := ⟨"PlaceFinderModel", "draw", "(III)I"⟩
abbrev b_Model_draw : ByteArray := prog_7_method_18_code
def y_Model_add : MethodName := ⟨"PlaceFinderModel", "add", "()V"⟩
abbrev b_Model_add : ByteArray := prog_7_method_19_code
def y_Model_list : MethodName := ⟨"PlaceFinderModel", "list", "(I)V"⟩
abbrev b_Model_list : ByteArray := prog_7_method_20_code
def y_Model_darkIn : MethodName := ⟨"PlaceFinderModel", "darkIn", "(IIIIII)I"⟩
abbrev b_Model_darkIn : ByteArray := prog_7_method_21_code
def y_Model_least : MethodName := ⟨"PlaceFinderModel", "least", "(II)I"⟩
abbrev b_Model_least : ByteArray := prog_7_method_22_code
def y_Model_wrong : MethodName := ⟨"PlaceFinderModel", "wrong", "(IIIIII)I"⟩
abbrev b_Model_wrong : ByteArray := prog_7_method_23_code
def y_Model_look : MethodName := ⟨"PlaceFinderModel", "look", "(III)Z"⟩
abbrev b_Model_look : ByteArray := prog_7_method_24_code
def y_Model_enter : MethodName := ⟨"PlaceFinderModel", "enter", "(IIIIII)V"⟩
abbrev b_Model_enter : ByteArray := prog_7_method_25_code
def y_Model_isBefore : MethodName := ⟨"PlaceFinderModel", "isBefore", "(II)Z"⟩
abbrev b_Model_isBefore : ByteArray := prog_7_method_26_code
def y_Model_meet : MethodName := ⟨"PlaceFinderModel", "meet", "(II)Z"⟩
abbrev b_Model_meet : ByteArray := prog_7_method_27_code
def y_Model_leads : MethodName := ⟨"PlaceFinderModel", "leads", "(I)Z"⟩
abbrev b_Model_leads : ByteArray := prog_7_method_28_code
def y_Model_order : MethodName := ⟨"PlaceFinderModel", "order", "()V"⟩
abbrev b_Model_order : ByteArray := prog_7_method_29_code
def y_Model_find : MethodName := ⟨"PlaceFinderModel", "find", "(III)I"⟩
abbrev b_Model_find : ByteArray := prog_7_method_30_code
def y_Model_stood : MethodName := ⟨"PlaceFinderModel", "stood", "()I"⟩
abbrev b_Model_stood : ByteArray := prog_7_method_31_code
def y_Model_place : MethodName := ⟨"PlaceFinderModel", "place", "(II)I"⟩
abbrev b_Model_place : ByteArray := prog_7_method_32_code
def y_Model_modules : MethodName := ⟨"PlaceFinderModel", "modules", "(III)J"⟩
abbrev b_Model_modules : ByteArray := prog_7_method_33_code
def y_Paper_init : MethodName := ⟨"PlaceFinder$Paper", "<init>", "()V"⟩
abbrev b_Paper_init : ByteArray := prog_2_method_1_code
def y_Paper_renew : MethodName := ⟨"PlaceFinder$Paper", "renew", "(II)V"⟩
abbrev b_Paper_renew : ByteArray := prog_2_method_2_code
def y_Paper_bits : MethodName := ⟨"PlaceFinder$Paper", "bits", "(II)J"⟩
abbrev b_Paper_bits : ByteArray := prog_2_method_3_code
def y_Paper_flip : MethodName := ⟨"PlaceFinder$Paper", "flip", "(IIJ)I"⟩
abbrev b_Paper_flip : ByteArray := prog_2_method_4_code
def y_Paper_paint : MethodName := ⟨"PlaceFinder$Paper", "paint", "(IIIIZ)I"⟩
abbrev b_Paper_paint : ByteArray := prog_2_method_5_code
def y_Paper_countNow : MethodName := ⟨"PlaceFinder$Paper", "countNow", "(IIII)I"⟩
abbrev b_Paper_countNow : ByteArray := prog_2_method_6_code
def y_Paper_lowest : MethodName := ⟨"PlaceFinder$Paper", "lowest", "(I)J"⟩
abbrev b_Paper_lowest : ByteArray := prog_2_method_7_code
def y_Paper_addUp : MethodName := ⟨"PlaceFinder$Paper", "addUp", "()V"⟩
abbrev b_Paper_addUp : ByteArray := prog_2_method_8_code
def y_Paper_isLight : MethodName := ⟨"PlaceFinder$Paper", "isLight", "(I)Z"⟩
abbrev b_Paper_isLight : ByteArray := prog_2_method_9_code
def y_Paper_addUpRow : MethodName := ⟨"PlaceFinder$Paper", "addUpRow", "(I)V"⟩
abbrev b_Paper_addUpRow : ByteArray := prog_2_method_10_code
def y_Paper_countSummed : MethodName := ⟨"PlaceFinder$Paper", "countSummed", "(IIII)I"⟩
abbrev b_Paper_countSummed : ByteArray := prog_2_method_11_code
def y_Place_init : MethodName := ⟨"PlaceFinder$Place", "<init>", "(I)V"⟩
abbrev b_Place_init : ByteArray := prog_3_method_1_code
def y_Place_keyOf : MethodName := ⟨"PlaceFinder$Place", "keyOf", "(III)I"⟩
abbrev b_Place_keyOf : ByteArray := prog_3_method_2_code
def y_Place_leftOf : MethodName := ⟨"PlaceFinder$Place", "leftOf", "(I)I"⟩
abbrev b_Place_leftOf : ByteArray := prog_3_method_3_code
def y_Place_topOf : MethodName := ⟨"PlaceFinder$Place", "topOf", "(I)I"⟩
abbrev b_Place_topOf : ByteArray := prog_3_method_4_code
def y_Place_moduleOf : MethodName := ⟨"PlaceFinder$Place", "moduleOf", "(I)I"⟩
abbrev b_Place_moduleOf : ByteArray := prog_3_method_5_code
def y_Place_versionOf : MethodName := ⟨"PlaceFinder$Place", "versionOf", "(I)I"⟩
abbrev b_Place_versionOf : ByteArray := prog_3_method_6_code
def y_Place_quarterOf : MethodName := ⟨"PlaceFinder$Place", "quarterOf", "(I)I"⟩
abbrev b_Place_quarterOf : ByteArray := prog_3_method_7_code
def y_Place_sizeOf : MethodName := ⟨"PlaceFinder$Place", "sizeOf", "(I)I"⟩
abbrev b_Place_sizeOf : ByteArray := prog_3_method_8_code
def y_Place_haveCommonDot : MethodName := ⟨"PlaceFinder$Place", "haveCommonDot", "(II)Z"⟩
abbrev b_Place_haveCommonDot : ByteArray := prog_3_method_9_code
def y_Place_hasModule : MethodName := ⟨"PlaceFinder$Place", "hasModule", "(II)Z"⟩
abbrev b_Place_hasModule : ByteArray := prog_3_method_10_code
def y_Place_blockLeft : MethodName := ⟨"PlaceFinder$Place", "blockLeft", "(II)I"⟩
abbrev b_Place_blockLeft : ByteArray := prog_3_method_11_code
def y_Place_blockTop : MethodName := ⟨"PlaceFinder$Place", "blockTop", "(II)I"⟩
abbrev b_Place_blockTop : ByteArray := prog_3_method_12_code
def y_List_init : MethodName := ⟨"PlaceFinder$PlaceList", "<init>", "()V"⟩
abbrev b_List_init : ByteArray := prog_4_method_1_code
def y_List_clear : MethodName := ⟨"PlaceFinder$PlaceList", "clear", "()V"⟩
abbrev b_List_clear : ByteArray := prog_4_method_2_code
def y_List_add : MethodName := ⟨"PlaceFinder$PlaceList", "add", "(II)Z"⟩
abbrev b_List_add : ByteArray := prog_4_method_3_code
def y_List_takeLeaders : MethodName := ⟨"PlaceFinder$PlaceList", "takeLeaders", "(LPlaceFinder$PlaceList;)V"⟩
abbrev b_List_takeLeaders : ByteArray := prog_4_method_4_code
def y_List_leads : MethodName := ⟨"PlaceFinder$PlaceList", "leads", "(I)Z"⟩
abbrev b_List_leads : ByteArray := prog_4_method_5_code
def y_List_isBetter : MethodName := ⟨"PlaceFinder$PlaceList", "isBetter", "(II)Z"⟩
abbrev b_List_isBetter : ByteArray := prog_4_method_6_code
def y_Search_init : MethodName := ⟨"PlaceFinder$Search", "<init>", "()V"⟩
abbrev b_Search_init : ByteArray := prog_5_method_1_code
def y_Search_look : MethodName := ⟨"PlaceFinder$Search", "look", "(III)Z"⟩
abbrev b_Search_look : ByteArray := prog_5_method_2_code
def y_Search_siftFinders : MethodName := ⟨"PlaceFinder$Search", "siftFinders", "(IIIII)V"⟩
abbrev b_Search_siftFinders : ByteArray := prog_5_method_3_code
def y_Search_siftVersions : MethodName := ⟨"PlaceFinder$Search", "siftVersions", "(IIII)V"⟩
abbrev b_Search_siftVersions : ByteArray := prog_5_method_4_code
def y_Search_siftPlaces : MethodName := ⟨"PlaceFinder$Search", "siftPlaces", "(IIIIIII)V"⟩
abbrev b_Search_siftPlaces : ByteArray := prog_5_method_5_code
def y_Search_withCorner : MethodName := ⟨"PlaceFinder$Search", "withCorner", "(III)I"⟩
abbrev b_Search_withCorner : ByteArray := prog_5_method_6_code
def y_Search_judge : MethodName := ⟨"PlaceFinder$Search", "judge", "(I)V"⟩
abbrev b_Search_judge : ByteArray := prog_5_method_7_code
def y_Search_takeTile : MethodName := ⟨"PlaceFinder$Search", "takeTile", "(IIII)V"⟩
abbrev b_Search_takeTile : ByteArray := prog_5_method_8_code
def y_Search_isSingle : MethodName := ⟨"PlaceFinder$Search", "isSingle", "()Z"⟩
abbrev b_Search_isSingle : ByteArray := prog_5_method_9_code
def y_Search_isAlike : MethodName := ⟨"PlaceFinder$Search", "isAlike", "(III)Z"⟩
abbrev b_Search_isAlike : ByteArray := prog_5_method_10_code
def y_Search_isRight : MethodName := ⟨"PlaceFinder$Search", "isRight", "(I)Z"⟩
abbrev b_Search_isRight : ByteArray := prog_5_method_11_code
def y_Search_isLow : MethodName := ⟨"PlaceFinder$Search", "isLow", "(I)Z"⟩
abbrev b_Search_isLow : ByteArray := prog_5_method_12_code
def y_Search_finderX : MethodName := ⟨"PlaceFinder$Search", "finderX", "(I)I"⟩
abbrev b_Search_finderX : ByteArray := prog_5_method_13_code
def y_Search_finderY : MethodName := ⟨"PlaceFinder$Search", "finderY", "(I)I"⟩
abbrev b_Search_finderY : ByteArray := prog_5_method_14_code
def y_Search_cornerWrong : MethodName := ⟨"PlaceFinder$Search", "cornerWrong", "(III)I"⟩
abbrev b_Search_cornerWrong : ByteArray := prog_5_method_15_code
def y_Search_finderFloor : MethodName := ⟨"PlaceFinder$Search", "finderFloor", "(II)I"⟩
abbrev b_Search_finderFloor : ByteArray := prog_5_method_16_code
def y_Search_borderFloor : MethodName := ⟨"PlaceFinder$Search", "borderFloor", "(III)I"⟩
abbrev b_Search_borderFloor : ByteArray := prog_5_method_17_code
def y_Search_lineFloor : MethodName := ⟨"PlaceFinder$Search", "lineFloor", "(I)I"⟩
abbrev b_Search_lineFloor : ByteArray := prog_5_method_18_code
def y_Search_withLine : MethodName := ⟨"PlaceFinder$Search", "withLine", "(II)I"⟩
abbrev b_Search_withLine : ByteArray := prog_5_method_19_code
def y_Search_lineX : MethodName := ⟨"PlaceFinder$Search", "lineX", "(I)I"⟩
abbrev b_Search_lineX : ByteArray := prog_5_method_20_code
def y_Search_lineY : MethodName := ⟨"PlaceFinder$Search", "lineY", "(I)I"⟩
abbrev b_Search_lineY : ByteArray := prog_5_method_21_code
def y_Search_spotFloor : MethodName := ⟨"PlaceFinder$Search", "spotFloor", "(I)I"⟩
abbrev b_Search_spotFloor : ByteArray := prog_5_method_22_code
def y_Search_mostDark : MethodName := ⟨"PlaceFinder$Search", "mostDark", "(IIII)I"⟩
abbrev b_Search_mostDark : ByteArray := prog_5_method_23_code
def y_Search_leastDark : MethodName := ⟨"PlaceFinder$Search", "leastDark", "(IIII)I"⟩
abbrev b_Search_leastDark : ByteArray := prog_5_method_24_code
def y_Law_sheet : MethodName := ⟨"PlaceFinderLaw", "sheet", "(LPlaceFinder;II)I"⟩
abbrev b_Law_sheet : ByteArray := method_3_code
def y_Law_fill : MethodName := ⟨"PlaceFinderLaw", "fill", "(LPlaceFinder;IIIIZ[J)I"⟩
abbrev b_Law_fill : ByteArray := method_4_code
def y_Law_draw : MethodName := ⟨"PlaceFinderLaw", "draw", "(LPlaceFinder;III[J)I"⟩
abbrev b_Law_draw : ByteArray := method_5_code
def y_Law_find : MethodName := ⟨"PlaceFinderLaw", "find", "(LPlaceFinder;III[J)I"⟩
abbrev b_Law_find : ByteArray := method_6_code
def y_Law_place : MethodName := ⟨"PlaceFinderLaw", "place", "(LPlaceFinder;II[J)I"⟩
abbrev b_Law_place : ByteArray := method_7_code
def y_Law_modules : MethodName := ⟨"PlaceFinderLaw", "modules", "(LPlaceFinder;III[J)I"⟩
abbrev b_Law_modules : ByteArray := method_8_code
def y_Long_bitCount : MethodName := ⟨"java/lang/Long", "bitCount", "(J)I"⟩
abbrev b_Long_bitCount : ByteArray := prog_11_method_50_code
def y_Arrays_fillI : MethodName := ⟨"java/util/Arrays", "fill", "([II)V"⟩
abbrev b_Arrays_fillI : ByteArray := prog_17_method_103_code
def y_Arrays_fillJ : MethodName := ⟨"java/util/Arrays", "fill", "([JJ)V"⟩
abbrev b_Arrays_fillJ : ByteArray := prog_17_method_101_code
end
section
/-! numbers: an int and the whole number that it stands for -/
theorem ti_k {a : Int32} {z : Int} (h : a.toInt = z) : a.toInt = z := h
theorem ti_bm {x : Int} (h1 : -2147483648 ≤ x) (h2 : x < 2147483648) : x.bmod (2 ^ 32) = x := by
  apply Int.bmod_eq_of_le_mul_two <;> omega
theorem ti_add {a b : Int32} {x y : Int} (ha : a.toInt = x) (hb : b.toInt = y) (h1 : -2147483648 ≤ x + y) (h2 : x + y < 2147483648) : (a + b).toInt = x + y := by
  rw [Int32.toInt_add, ha, hb, ti_bm h1 h2]
theorem ti_sub {a b : Int32} {x y : Int} (ha : a.toInt = x) (hb : b.toInt = y) (h1 : -2147483648 ≤ x - y) (h2 : x - y < 2147483648) : (a - b).toInt = x - y := by
  rw [Int32.toInt_sub, ha, hb, ti_bm h1 h2]
theorem ti_mul {a b : Int32} {x y : Int} (ha : a.toInt = x) (hb : b.toInt = y) (h1 : -2147483648 ≤ x * y) (h2 : x * y < 2147483648) : (a * b).toInt = x * y := by
  rw [Int32.toInt_mul, ha, hb, ti_bm h1 h2]
theorem ti_neg {a : Int32} {x : Int} (ha : a.toInt = x) (h1 : -2147483648 ≤ -x) (h2 : -x < 2147483648) : (-a).toInt = -x := by
  rw [Int32.toInt_neg, ha, ti_bm h1 h2]
theorem ti_lt {a b : Int32} {x y : Int} (ha : a.toInt = x) (hb : b.toInt = y) : a < b ↔ x < y := by
  rw [Int32.lt_iff_toInt_lt, ha, hb]
theorem ti_le {a b : Int32} {x y : Int} (ha : a.toInt = x) (hb : b.toInt = y) : a ≤ b ↔ x ≤ y := by
  rw [Int32.le_iff_toInt_le, ha, hb]
theorem ti_eq {a b : Int32} {x y : Int} (ha : a.toInt = x) (hb : b.toInt = y) : a = b ↔ x = y := by
  rw [← Int32.toInt_inj, ha, hb]
theorem ti_max {a b : Int32} {x y : Int} (ha : a.toInt = x) (hb : b.toInt = y) : (if a < b then b else a).toInt = max x y := by
  by_cases h : a < b
  · rw [if_pos h, hb]; have := (ti_lt ha hb).mp h; omega
  · rw [if_neg h, ha]; have q : ¬ x < y := fun q => h ((ti_lt ha hb).mpr q)
    omega
theorem ti_min {a b : Int32} {x y : Int} (ha : a.toInt = x) (hb : b.toInt = y) : (if b < a then b else a).toInt = min x y := by
  by_cases h : b < a
  · rw [if_pos h, hb]; have := (ti_lt hb ha).mp h; omega
  · rw [if_neg h, ha]; have q : ¬ y < x := fun q => h ((ti_lt hb ha).mpr q)
    omega
theorem ti_abs {a : Int32} {x : Int} (ha : a.toInt = x) (h : -2147483648 < x) : (if 0 ≤ a then a else 0 - a).toInt = if 0 ≤ x then x else 0 - x := by
  have hz : (0 : Int32).toInt = 0 := by decide
  have hb := Int32.toInt_lt a
  by_cases q : 0 ≤ a
  · rw [if_pos q, if_pos ((ti_le hz ha).mp q), ha]
  · rw [if_neg q, if_neg (fun r => q ((ti_le hz ha).mpr r))]
    exact ti_sub hz ha (by omega) (by omega)
theorem ti_rng (a : Int32) : -2147483648 ≤ a.toInt ∧ a.toInt < 2147483648 := ⟨Int32.le_toInt a, Int32.toInt_lt a⟩
theorem vi_cl {a : Int32} {z : Int} (h : a.toInt = z) : a.toNatClampNeg = z.toNat := by rw [← h]; rfl
theorem vi_in {a : Int32} {z : Int} {n : Nat} (h : a.toInt = z) (h0 : 0 ≤ z) (h1 : z < n) : vp_in a n := vp_in_iff.mpr ⟨by rw [h]; exact h0, by rw [h]; exact h1⟩
theorem ti_div {a b : Int32} {x y : Int} (ha : a.toInt = x) (hb : b.toInt = y) (h0 : 0 ≤ x) (h1 : 0 < y) : (a / b).toInt = x / y := by
  have hn : b ≠ -1 := by
    intro q
    rw [q] at hb
    have z : (-1 : Int32).toInt = -1 := by decide
    omega
  rw [Int32.toInt_div_of_ne_right a b hn, ha, hb, Int.tdiv_eq_ediv_of_nonneg h0]
theorem ti_rem {a b : Int32} {x y : Int} (ha : a.toInt = x) (hb : b.toInt = y) (h0 : 0 ≤ x) (h1 : 0 < y) : (a - a / b * b).toInt = x % y := by
  have hd := ti_div ha hb h0 h1
  have hx := ti_rng a
  have e : x / y * y = x - x % y := by have := Int.emod_add_mul_ediv x y; rw [Int.mul_comm]; omega
  have p1 : 0 ≤ x % y := Int.emod_nonneg x (by omega)
  have p3 : 0 ≤ x / y * y := Int.mul_nonneg (Int.ediv_nonneg h0 (by omega)) (by omega)
  have hm : (a / b * b).toInt = x / y * y := ti_mul hd hb (by omega) (by omega)
  rw [ti_sub ha hm (by omega) (by omega)]; omega
/-! one cut, one loop: the goal behind is proved once for all ways that lead there -/
section cuts
variable {p : Program} {l : Launch} {e : Env} {R : Room} {s : State} {m : MethodId} {args : Array Value} {below : List Frame} {meth : Method} {c : Code} {H : Heap} {locs : List Loc} {cells slots : Nat} {Q : State → Prop} {g : JFrame}
theorem w_cut {I : Heap → List Loc → JFrame → Prop} (k : ∀ H' locs' g', I H' locs' g' → W p l e R s m args below meth c H' locs' cells slots Q g') (b : (∀ H' locs' g', I H' locs' g' → W p l e R s m args below meth c H' locs' cells slots Q g') → W p l e R s m args below meth c H locs cells slots Q g) : W p l e R s m args below meth c H locs cells slots Q g := b k
theorem w_cut0 {I : JFrame → Prop} (k : ∀ g', I g' → W p l e R s m args below meth c H locs cells slots Q g') (b : (∀ g', I g' → W p l e R s m args below meth c H locs cells slots Q g') → W p l e R s m args below meth c H locs cells slots Q g) : W p l e R s m args below meth c H locs cells slots Q g := b k
theorem w_loop {I : Nat → Heap → List Loc → JFrame → Prop} (step : ∀ n H' locs' g', I n H' locs' g' → (∀ n', n' < n → ∀ H2 locs2 g2, I n' H2 locs2 g2 → W p l e R s m args below meth c H2 locs2 cells slots Q g2) → W p l e R s m args below meth c H' locs' cells slots Q g') {n : Nat} (h : I n H locs g) : W p l e R s m args below meth c H locs cells slots Q g := by
  have key : ∀ n H' locs' g', I n H' locs' g' → W p l e R s m args below meth c H' locs' cells slots Q g' := by
    intro n
    induction n using Nat.strongRecOn with
    | _ n ih => intro H' locs' g' hI; exact step n H' locs' g' hI (fun n' hn H2 locs2 g2 h2 => ih n' hn H2 locs2 g2 h2)
  exact key n H locs g h
end cuts
/-! a callee that writes nothing: what the world holds, it holds behind the call -/
theorem ro_keep {D : va_G} {cl : List vw_C} {ws : va_W} {H H1 : Heap} (hP : va_P D cl ws H) (hk : ∀ q : Nat, q < H.size → ¬ False → H1[q]? = H[q]?) : va_P D cl ws H1 := hP.kept (fun k q h => hk q.1 (hP k q h).lt (fun f => f))
abbrev ro_B (D : va_G) (cl : List vw_C) (ws : va_W) (tys : List (ClassId × FieldType)) (U : State) : Prop := va_P D cl ws U.heap ∧ va_K D cl tys U
theorem ro_blind {av : List Value} {D : va_G} {cl : List vw_C} {ws : va_W} {tys : List (ClassId × FieldType)} : FrameBlind (va_Pc av (ro_B D cl ws tys)) := fun a U g mk q => ⟨q.1, q.2.1, va_K.moved (u := U) (U := U.calling g mk a) (Vm.Alike.refl U.vm) q.2.2⟩
theorem ro_pre {s : State} {H : Heap} {av : List Value} {D : va_G} {cl : List vw_C} {ws : va_W} {tys : List (ClassId × FieldType)} (hP : va_P D cl ws H) (hK : va_K D cl tys s) : ∀ U : State, U.heap = H → s.WarmedH U.vm → va_Pc av (ro_B D cl ws tys) av.toArray U := fun U hU hW => ⟨rfl, by rw [hU]; exact hP, va_K.moved hW.alike hK⟩
abbrev rw_B (D : va_G) (cl : List vw_C) (ws : va_W) (tys : List (ClassId × FieldType)) (sz : Nat) (U : State) : Prop := U.heap.size = sz ∧ va_P D cl ws U.heap ∧ va_K D cl tys U ∧ va_D (fun _ => True) ws
abbrev rw_E (D : va_G) (cl : List vw_C) (ws : va_W) (tys : List (ClassId × FieldType)) (A : Nat → Prop) (t : State) : Prop := va_P D cl ws t.heap ∧ va_K D cl tys t ∧ va_D A ws
theorem rw_blind {av : List Value} {D : va_G} {cl : List vw_C} {ws : va_W} {tys : List (ClassId × FieldType)} {sz : Nat} : FrameBlind (va_Pc av (rw_B D cl ws tys sz)) := fun a U g mk q => ⟨q.1, q.2.1, q.2.2.1, va_K.moved (u := U) (U := U.calling g mk a) (Vm.Alike.refl U.vm) q.2.2.2.1, q.2.2.2.2⟩
theorem rw_pre {s : State} {H : Heap} {av : List Value} {D : va_G} {cl : List vw_C} {ws : va_W} {tys : List (ClassId × FieldType)} {A : Nat → Prop} (hP : va_P D cl ws H) (hK : va_K D cl tys s) (hD : va_D A ws) : ∀ U : State, U.heap = H → s.WarmedH U.vm → va_Pc av (rw_B D cl ws tys H.size) av.toArray U := fun U hU hW => ⟨rfl, by rw [hU], by rw [hU]; exact hP, va_K.moved hW.alike hK, hD.weaken (fun _ _ _ _ => trivial)⟩
/-- an answer true or false -/
def isB (r : Int32) (P : Prop) : Prop := (r = 1 ∧ P) ∨ (r = 0 ∧ ¬ P)
theorem bi_z {v : Int32} {P : Prop} (h : isB v P) (c : v = 0) : ¬ P := by
  rcases h with ⟨e, _⟩ | ⟨_, q⟩
  · rw [e] at c; exact absurd c (by decide)
  · exact q
theorem bi_nz {v : Int32} {P : Prop} (h : isB v P) (c : ¬ v = 0) : P := by
  rcases h with ⟨_, q⟩ | ⟨e, _⟩
  · exact q
  · exact absurd e c
end
section
/-! how many dots are dark in a box -/
def rc (D : Int → Int → Bool) (x y : Int) : Nat → Int
  | 0 => 0
  | n + 1 => rc D x y n + (if D (x + n) y = true then 1 else 0)
def cn (D : Int → Int → Bool) (x y : Int) (w : Nat) : Nat → Int
  | 0 => 0
  | n + 1 => cn D x y w n + rc D x (y + n) w
def cI (D : Int → Int → Bool) (x y w h : Int) : Int := cn D x y w.toNat h.toNat
theorem rc_split (D : Int → Int → Bool) (x y : Int) (a b : Nat) : rc D x y (a + b) = rc D x y a + rc D (x + a) y b := by
  induction b with
  | zero => simp [rc]
  | succ b ih =>
    show rc D x y (a + b) + (if D (x + ((a + b : Nat) : Int)) y = true then 1 else 0) = rc D x y a + (rc D (x + a) y b + (if D (x + a + b) y = true then 1 else 0))
    rw [ih]
    have e : x + ((a + b : Nat) : Int) = x + a + b := by omega
    rw [e]; omega
theorem rc_nn (D : Int → Int → Bool) (x y : Int) (n : Nat) : 0 ≤ rc D x y n := by
  induction n with
  | zero => simp [rc]
  | succ n ih => simp only [rc]; split <;> omega
theorem rc_le (D : Int → Int → Bool) (x y : Int) (n : Nat) : rc D x y n ≤ n := by
  induction n with
  | zero => simp [rc]
  | succ n ih => simp only [rc]; split <;> omega
theorem cn_h (D : Int → Int → Bool) (x y : Int) (w a b : Nat) : cn D x y w (a + b) = cn D x y w a + cn D x (y + a) w b := by
  induction b with
  | zero => simp [cn]
  | succ b ih =>
    show cn D x y w (a + b) + rc D x (y + ((a + b : Nat) : Int)) w = cn D x y w a + (cn D x (y + a) w b + rc D x (y + a + b) w)
    rw [ih]
    have e : y + ((a + b : Nat) : Int) = y + a + b := by omega
    rw [e]; omega
theorem cn_w (D : Int → Int → Bool) (x y : Int) (a b h : Nat) : cn D x y (a + b) h = cn D x y a h + cn D (x + a) y b h := by
  induction h with
  | zero => simp [cn]
  | succ h ih => simp only [cn]; rw [ih, rc_split]; omega
theorem cn_nn (D : Int → Int → Bool) (x y : Int) (w h : Nat) : 0 ≤ cn D x y w h := by
  induction h with
  | zero => simp [cn]
  | succ h ih => simp only [cn]; have := rc_nn D x (y + h) w; omega
theorem cn_le (D : Int → Int → Bool) (x y : Int) (w h : Nat) : cn D x y w h ≤ w * h := by
  induction h with
  | zero => simp [cn]
  | succ h ih =>
    simp only [cn]; have := rc_le D x (y + h) w
    have e : (w : Int) * ((h + 1 : Nat) : Int) = w * h + w := by rw [Int.natCast_add, Int.mul_add]; simp
    omega
theorem cI_nn (D : Int → Int → Bool) (x y w h : Int) : 0 ≤ cI D x y w h := cn_nn _ _ _ _ _
theorem cI_w {D : Int → Int → Bool} {x y h : Int} (a b : Int) (ha : 0 ≤ a) (hb : 0 ≤ b) : cI D x y (a + b) h = cI D x y a h + cI D (x + a) y b h := by
  unfold cI
  have e : (a + b).toNat = a.toNat + b.toNat := by omega
  have e2 : ((a.toNat : Nat) : Int) = a := by omega
  rw [e, cn_w, e2]
theorem cI_h {D : Int → Int → Bool} {x y w : Int} (a b : Int) (ha : 0 ≤ a) (hb : 0 ≤ b) : cI D x y w (a + b) = cI D x y w a + cI D x (y + a) w b := by
  unfold cI
  have e : (a + b).toNat = a.toNat + b.toNat := by omega
  have e2 : ((a.toNat : Nat) : Int) = a := by omega
  rw [e, cn_h, e2]
theorem cI_le (D : Int → Int → Bool) (x y : Int) {w h : Int} (hw : 0 ≤ w) (hh : 0 ≤ h) : cI D x y w h ≤ w * h := by
  have := cn_le D x y w.toNat h.toNat
  have e1 : ((w.toNat : Nat) : Int) = w := by omega
  have e2 : ((h.toNat : Nat) : Int) = h := by omega
  rw [e1, e2] at this; exact this
theorem cI_0w (D : Int → Int → Bool) (x y : Int) {w : Int} (h : Int) (hw : w ≤ 0) : cI D x y w h = 0 := by
  have e1 : w.toNat = 0 := by omega
  unfold cI; rw [e1]
  have : ∀ n, cn D x y 0 n = 0 := by
    intro n; induction n with
    | zero => rfl
    | succ n ih => simp only [cn, ih, rc]; rfl
  exact this _
theorem cI_0h (D : Int → Int → Bool) (x y : Int) (w : Int) {h : Int} (hh : h ≤ 0) : cI D x y w h = 0 := by
  have e1 : h.toNat = 0 := by omega
  unfold cI; rw [e1]; rfl
/-- the four sums -/
theorem cI_four {D : Int → Int → Bool} {x y w h : Int} (hx : 0 ≤ x) (hy : 0 ≤ y) (hw : 0 ≤ w) (hh : 0 ≤ h) :
    cI D x y w h = cI D 0 0 (x + w) (y + h) - cI D 0 0 x (y + h) - cI D 0 0 (x + w) y + cI D 0 0 x y := by
  have h1 : cI D 0 0 (x + w) (y + h) = cI D 0 0 x (y + h) + cI D (0 + x) 0 w (y + h) := cI_w x w hx hw
  have h2 : cI D (0 + x) 0 w (y + h) = cI D (0 + x) 0 w y + cI D (0 + x) (0 + y) w h := cI_h y h hy hh
  have h3 : cI D 0 0 (x + w) y = cI D 0 0 x y + cI D (0 + x) 0 w y := cI_w x w hx hw
  have e1 : (0 : Int) + x = x := by omega
  have e2 : (0 : Int) + y = y := by omega
  rw [e1] at h1 h2 h3; rw [e2] at h2
  omega
/-- a box in a box: no more are dark in it, and no more light -/
theorem cI_in {D : Int → Int → Bool} {x y w h x' y' w' h' : Int} (a1 : x ≤ x') (a2 : x' + w' ≤ x + w) (a3 : 0 ≤ w') (b1 : y ≤ y') (b2 : y' + h' ≤ y + h) (b3 : 0 ≤ h') :
    cI D x' y' w' h' ≤ cI D x y w h ∧ cI D x y w h - cI D x' y' w' h' ≤ w * h - w' * h' := by
  have e1 : w = (x' - x) + (w' + (x + w - x' - w')) := by omega
  have e2 : h = (y' - y) + (h' + (y + h - y' - h')) := by omega
  have s1 : cI D x y w h = cI D x y (x' - x) h + cI D (x + (x' - x)) y (w' + (x + w - x' - w')) h := by
    conv => lhs; rw [e1]
    exact cI_w _ _ (by omega) (by omega)
  have s2 : cI D (x + (x' - x)) y (w' + (x + w - x' - w')) h = cI D (x + (x' - x)) y w' h + cI D (x + (x' - x) + w') y (x + w - x' - w') h := cI_w _ _ (by omega) (by omega)
  have s3 : cI D (x + (x' - x)) y w' h = cI D (x + (x' - x)) y w' (y' - y) + cI D (x + (x' - x)) (y + (y' - y)) w' (h' + (y + h - y' - h')) := by
    conv => lhs; rw [e2]
    exact cI_h _ _ (by omega) (by omega)
  have s4 : cI D (x + (x' - x)) (y + (y' - y)) w' (h' + (y + h - y' - h')) = cI D (x + (x' - x)) (y + (y' - y)) w' h' + cI D (x + (x' - x)) (y + (y' - y) + h') w' (y + h - y' - h') := cI_h _ _ (by omega) (by omega)
  have ex : x + (x' - x) = x' := by omega
  have ey : y + (y' - y) = y' := by omega
  rw [ex] at s1 s2 s3 s4; rw [ey] at s3 s4
  have n1 := cI_nn D x y (x' - x) h
  have n2 := cI_nn D (x' + w') y (x + w - x' - w') h
  have n3 := cI_nn D x' y w' (y' - y)
  have n4 := cI_nn D x' (y' + h') w' (y + h - y' - h')
  have hh : 0 ≤ h := by omega
  have l1 := cI_le D x y (w := x' - x) (h := h) (by omega) hh
  have l2 := cI_le D (x' + w') y (w := x + w - x' - w') (h := h) (by omega) hh
  have l3 := cI_le D x' y (w := w') (h := y' - y) (by omega) (by omega)
  have l4 := cI_le D x' (y' + h') (w := w') (h := y + h - y' - h') (by omega) (by omega)
  refine ⟨by omega, ?_⟩
  have m1 : (x' - x) * h + (x + w - x' - w') * h = w * h - w' * h := by
    rw [← Int.add_mul, ← Int.sub_mul]; congr 1; omega
  have m2 : w' * (y' - y) + w' * (y + h - y' - h') = w' * h - w' * h' := by
    rw [← Int.mul_add, ← Int.mul_sub]; congr 1; omega
  omega
theorem mul_b {a b n : Int} (h1 : 0 ≤ a) (h2 : a ≤ n) (h3 : 0 ≤ b) (h4 : b ≤ n) : a * b ≤ n * n := Int.mul_le_mul h2 h4 h3 (by omega)
/-- what countSummed answers -/
def cS (D : Int → Int → Bool) (W H x y w h : Int) : Int := if w ≤ 0 ∨ h ≤ 0 ∨ x < 0 ∨ y < 0 ∨ W - w < x ∨ H - h < y then 0 else cI D x y w h
theorem cS_out {D : Int → Int → Bool} {W H x y w h : Int} (q : w ≤ 0 ∨ h ≤ 0 ∨ x < 0 ∨ y < 0 ∨ W - w < x ∨ H - h < y) : cS D W H x y w h = 0 := if_pos q
theorem cS_in {D : Int → Int → Bool} {W H x y w h : Int} (q : ¬ (w ≤ 0 ∨ h ≤ 0 ∨ x < 0 ∨ y < 0 ∨ W - w < x ∨ H - h < y)) : cS D W H x y w h = cI D x y w h := if_neg q
theorem mul_b2 {a b p q : Int} (h1 : 0 ≤ a) (h2 : a ≤ p) (h3 : 0 ≤ b) (h4 : b ≤ q) : a * b ≤ p * q := Int.mul_le_mul h2 h4 h3 (by omega)
end
section
/-! bits of a long -/
def lb (x : Int64) (i : Nat) : Bool := x.toBitVec.getLsbD i
theorem lb_ext {x y : Int64} (h : ∀ i, i < 64 → lb x i = lb y i) : x = y := Int64.toBitVec_inj.mp (BitVec.eq_of_getLsbD_eq (fun i hi => h i hi))
theorem lb_big {x : Int64} {i : Nat} (h : 64 ≤ i) : lb x i = false := BitVec.getLsbD_of_ge _ _ h
theorem lb_or (x y : Int64) (i : Nat) : lb (x ||| y) i = (lb x i || lb y i) := by unfold lb; rw [Int64.toBitVec_or, BitVec.getLsbD_or]
theorem lb_and (x y : Int64) (i : Nat) : lb (x &&& y) i = (lb x i && lb y i) := by unfold lb; rw [Int64.toBitVec_and, BitVec.getLsbD_and]
theorem lb_xor (x y : Int64) (i : Nat) : lb (x ^^^ y) i = (lb x i ^^ lb y i) := by unfold lb; rw [Int64.toBitVec_xor, BitVec.getLsbD_xor]
theorem lb_0 (i : Nat) : lb 0 i = false := by show (0#64).getLsbD i = false; simp
theorem lb_m1 {i : Nat} (h : i < 64) : lb (-1) i = true := by
  have ha : (-1 : Int64).toBitVec = BitVec.allOnes 64 := by decide
  unfold lb; rw [ha, BitVec.getLsbD_allOnes]; simp [h]
theorem ti_nI {v : Int32} {k : Int} (hv : v.toInt = k) (h0 : 0 ≤ k) : v = nI k.toNat := by
  have hr := ti_rng v
  apply Int32.toInt_inj.mp
  rw [nI_toInt (by omega), hv]; omega
theorem lb_cnt : ∀ k, k < 64 → ((nI k).toInt64 &&& 63).toBitVec.smod 64 = BitVec.ofNat 64 k := by decide +kernel
theorem lb_cntu : ∀ k, k < 64 → ((nI k).toInt64.toUInt64 &&& Int64.toUInt64 63) = UInt64.ofNat k := by decide +kernel
theorem lb_shl {x : Int64} {v : Int32} {k : Int} (hv : v.toInt = k) (h0 : 0 ≤ k) (h1 : k < 64) {i : Nat} (hi : i < 64) : lb (x <<< (v.toInt64 &&& 63)) i = (decide (k.toNat ≤ i) && lb x (i - k.toNat)) := by
  rw [ti_nI hv h0]
  unfold lb
  rw [Int64.toBitVec_shiftLeft, lb_cnt k.toNat (by omega)]
  have hk : (BitVec.ofNat 64 k.toNat).toNat = k.toNat := by rw [BitVec.toNat_ofNat]; exact Nat.mod_eq_of_lt (by omega)
  rw [BitVec.shiftLeft_eq', hk, BitVec.getLsbD_shiftLeft]
  by_cases q : i < k.toNat
  · have : ¬ k.toNat ≤ i := by omega
    simp [q, this]
  · have : k.toNat ≤ i := by omega
    simp [q, this, hi]
theorem lb_ushr {x : Int64} {v : Int32} {k : Int} (hv : v.toInt = k) (h0 : 0 ≤ k) (h1 : k < 64) (i : Nat) : lb (x.toUInt64 >>> (v.toInt64.toUInt64 &&& Int64.toUInt64 63)).toInt64 i = lb x (k.toNat + i) := by
  rw [ti_nI hv h0, lb_cntu k.toNat (by omega)]
  have e : (x.toUInt64 >>> UInt64.ofNat k.toNat).toInt64.toBitVec = x.toBitVec >>> k.toNat := by
    apply BitVec.eq_of_toNat_eq
    show (x.toUInt64 >>> UInt64.ofNat k.toNat).toNat = _
    have h2 : (UInt64.ofNat k.toNat).toNat = k.toNat := by
      show (BitVec.ofNat 64 k.toNat).toNat = k.toNat
      rw [BitVec.toNat_ofNat]; exact Nat.mod_eq_of_lt (by omega)
    rw [UInt64.toNat_shiftRight, h2, Nat.mod_eq_of_lt (by omega), BitVec.toNat_ushiftRight]
    rfl
  unfold lb; rw [e, BitVec.getLsbD_ushiftRight]
theorem ti_shr {a b : Int32} {x : Int} {k : Nat} (ha : a.toInt = x) (hk : ((b &&& 31).toBitVec.smod 32).toNat = k) : (a >>> (b &&& 31)).toInt = x >>> k := by
  rw [pk_shr a (b &&& 31) k hk, ha]
theorem ti_shr6 {a : Int32} {x : Int} (ha : a.toInt = x) : (a >>> ((6 : Int32) &&& 31)).toInt = x / 64 := by
  rw [ti_shr ha (k := 6) (by decide), Int.shiftRight_eq_div_pow]; rfl
theorem ti_and {a b : Int32} {x : Int} (k : Nat) (ha : a.toInt = x) (h0 : 0 ≤ x) (hb : b.toBitVec.toNat = 2 ^ k - 1) (hk : k < 31) : (a &&& b).toInt = x % (2 ^ k : Nat) := by
  have hr := ti_rng a
  rw [ti_nI ha h0, pk_andN (by omega) k hb]
  have hlt : x.toNat % 2 ^ k < 2 ^ k := Nat.mod_lt _ (Nat.two_pow_pos k)
  have hp : 2 ^ k ≤ 2 ^ 30 := Nat.pow_le_pow_right (by decide) (by omega)
  rw [nI_toInt (by omega), Int.natCast_emod, Int.toNat_of_nonneg h0]
theorem ti_and63 {a : Int32} {x : Int} (ha : a.toInt = x) (h0 : 0 ≤ x) : (a &&& 63).toInt = x % 64 := ti_and 6 ha h0 (by decide) (by decide)
/-! the words that hold the dots -/
theorem D_f {D : Int → Int → Bool} {W H x y : Int} (hsup : ∀ x y, D x y = true → 0 ≤ x ∧ x < W ∧ 0 ≤ y ∧ y < H) (h : x < 0 ∨ W ≤ x ∨ y < 0 ∨ H ≤ y) : D x y = false := by
  cases q : D x y with
  | false => rfl
  | true => have := hsup x y q; omega
theorem bt_row {fw : Nat → Int64} {D : Int → Int → Bool} (hbits : ∀ x y, 0 ≤ x → x < 512 → 0 ≤ y → y < 512 → lb (fw (y * 8 + x / 64).toNat) (x % 64).toNat = D x y) {y k : Int} {j : Nat} (hy : 0 ≤ y) (hy2 : y < 512) (hk : 0 ≤ k) (hk2 : k < 8) (hj : j < 64) : lb (fw (y * 8 + k).toNat) j = D (k * 64 + j) y := by
  have t := hbits (k * 64 + j) y (by omega) (by omega) hy hy2
  have e1 : (k * 64 + (j : Int)) / 64 = k := by omega
  have e2 : ((k * 64 + (j : Int)) % 64).toNat = j := by omega
  rw [e1, e2] at t; exact t
theorem bits_A {v w : Int64} {D : Int → Int → Bool} {W H x y : Int} (hsup : ∀ x y, D x y = true → 0 ≤ x ∧ x < W ∧ 0 ≤ y ∧ y < H) (hW : W ≤ 512) (hw : ∀ j, j < 64 → lb w j = D (x / 64 * 64 + j) y) (e : ∀ i, lb v i = lb w ((x % 64).toNat + i)) (hx : 0 ≤ x) (hc : x % 64 = 0 ∨ 8 ≤ x / 64 + 1) : ∀ i, i < 64 → lb v i = D (x + i) y := by
  intro i hi
  rw [e i]
  by_cases q : (x % 64).toNat + i < 64
  · rw [hw _ q]; congr 1; omega
  · rw [lb_big (by omega), D_f hsup (by omega)]
theorem bits_B {v w u r : Int64} {D : Int → Int → Bool} {W H x y : Int} (hw : ∀ j, j < 64 → lb w j = D (x / 64 * 64 + j) y) (hu : ∀ j, j < 64 → lb u j = D ((x / 64 + 1) * 64 + j) y) (e : ∀ i, lb v i = lb w ((x % 64).toNat + i)) (e2 : ∀ i, i < 64 → lb r i = (lb v i || (decide ((64 - x % 64).toNat ≤ i) && lb u (i - (64 - x % 64).toNat)))) (hx : 0 ≤ x) (hc : ¬ x % 64 = 0) : ∀ i, i < 64 → lb r i = D (x + i) y := by
  intro i hi
  rw [e2 i hi, e i]
  by_cases q : (x % 64).toNat + i < 64
  · have : ¬ (64 - x % 64).toNat ≤ i := by omega
    rw [hw _ q]; simp only [this, decide_false, Bool.false_and, Bool.or_false]; congr 1; omega
  · have : (64 - x % 64).toNat ≤ i := by omega
    rw [lb_big (by omega), hu _ (by omega)]; simp only [this, decide_true, Bool.true_and, Bool.false_or]; congr 1; omega
theorem lo_all {k : Int} {i : Nat} (h : ¬ k < 64) (hi : i < 64) : lb (-1) i = decide ((i : Int) < k) := by
  rw [lb_m1 hi]; exact (decide_eq_true (by omega)).symm
theorem lb_lN {n i : Nat} (hi : i < 64) : lb (lN n) i = n.testBit i := by
  show (BitVec.ofNat 64 n).getLsbD i = _
  rw [BitVec.getLsbD_ofNat]; simp [hi]
theorem lN_bv (n : Nat) : (lN n).toBitVec = BitVec.ofNat 64 n := rfl
theorem lN_shl {a : Int32} {k : Int} (n : Nat) (h0 : a.toInt = k) (hk : 0 ≤ k) (h : k < 64) : lN n <<< (a.toInt64 &&& 63) = lN (n * 2 ^ k.toNat) := by
  rw [ti_nI h0 hk]
  apply Int64.toBitVec_inj.mp
  rw [Int64.toBitVec_shiftLeft, lb_cnt k.toNat (by omega), lN_bv, lN_bv]
  apply BitVec.eq_of_toNat_eq
  rw [BitVec.shiftLeft_eq', BitVec.toNat_shiftLeft, BitVec.toNat_ofNat, BitVec.toNat_ofNat, BitVec.toNat_ofNat, Nat.mod_eq_of_lt (show k.toNat < 2 ^ 64 by omega), Nat.shiftLeft_eq, Nat.mul_mod, Nat.mod_mod, ← Nat.mul_mod]
theorem lo_some {a : Int32} {k : Int} {i : Nat} (h0 : a.toInt = k) (hk : 0 ≤ k) (h : k < 64) (hi : i < 64) : lb ((1 : Int64) <<< (a.toInt64 &&& 63) - 1) i = decide ((i : Int) < k) := by
  have e : (1 : Int64) <<< (a.toInt64 &&& 63) = lN (2 ^ k.toNat) := by
    have := lN_shl 1 h0 hk h
    rw [Nat.one_mul] at this; exact this
  have p : 1 ≤ 2 ^ k.toNat := Nat.two_pow_pos _
  have e2 : lN (2 ^ k.toNat) - 1 = lN (2 ^ k.toNat - 1) := lN_sub (b := 1) p
  rw [e, e2, lb_lN hi, Nat.testBit_two_pow_sub_one]
  by_cases q : i < k.toNat
  · rw [decide_eq_true q, decide_eq_true (by omega)]
  · rw [decide_eq_false q, decide_eq_false (by omega)]
theorem ti_shk {a b : Int32} {x : Int} (k : Nat) (n : Int) (hk : ((b &&& 31).toBitVec.smod 32).toNat = k) (hn : ((2 ^ k : Nat) : Int) = n) (ha : a.toInt = x) : (a >>> (b &&& 31)).toInt = x / n := by
  rw [ti_shr ha hk, Int.shiftRight_eq_div_pow, ← hn]
theorem ti_andk {a b : Int32} {x : Int} (k : Nat) (n : Int) (hn : ((2 ^ k : Nat) : Int) = n) (ha : a.toInt = x) (h0 : 0 ≤ x) (hb : b.toBitVec.toNat = 2 ^ k - 1) (hk : k < 31) : (a &&& b).toInt = x % n := by
  rw [ti_and k ha h0 hb hk, hn]
theorem or_nI {a b k : Nat} (hb : b < 2 ^ k) : nI (a * 2 ^ k) ||| nI b = nI (a * 2 ^ k + b) := by
  have e : a * 2 ^ k ||| b = a * 2 ^ k + b := by rw [Nat.mul_comm, Nat.two_pow_add_eq_or_of_lt hb]
  apply Int32.toBitVec_inj.mp
  rw [Int32.toBitVec_or]
  show BitVec.ofNat 32 _ ||| BitVec.ofNat 32 _ = BitVec.ofNat 32 _
  rw [← BitVec.ofNat_or, e]
theorem key_of {a0 a1 a2 : Int32} {x y p : Int} (h0 : a0.toInt = x) (h1 : a1.toInt = y) (h2 : a2.toInt = p) (x0 : 0 ≤ x) (x1 : x < 512) (y0 : 0 ≤ y) (y1 : y < 512) (p0 : 0 ≤ p) (p1 : p < 8192) :
    (a1 <<< ((22 : Int32) &&& 31) ||| a0 <<< ((13 : Int32) &&& 31) ||| a2).toInt = y * 4194304 + x * 8192 + p := by
  rw [ti_nI h0 x0, ti_nI h1 y0, ti_nI h2 p0]
  rw [pk_shlN (n := y.toNat) ((22 : Int32) &&& 31) 22 (by decide) (by omega), pk_shlN (n := x.toNat) ((13 : Int32) &&& 31) 13 (by decide) (by omega)]
  have e1 : nI (y.toNat * 2 ^ 22) ||| nI (x.toNat * 2 ^ 13) = nI ((y.toNat * 512 + x.toNat) * 2 ^ 13) := by
    rw [or_nI (a := y.toNat) (k := 22) (by omega)]
    exact congrArg nI (by omega)
  rw [e1, or_nI (by omega), nI_toInt (by omega)]
  omega
/-- how long a key's place is, and whether two have a dot in common -/
def klen (K : Int) : Int := (K / 256 % 32) * (17 + 4 * (K / 4 % 64))
abbrev comm (A B : Int) : Prop := A / 8192 % 512 < B / 8192 % 512 + klen B ∧ B / 8192 % 512 < A / 8192 % 512 + klen A ∧ A / 4194304 % 512 < B / 4194304 % 512 + klen B ∧ B / 4194304 % 512 < A / 4194304 % 512 + klen A
def bA (S Q i j : Int) : Int := if Q = 0 then i else if Q = 1 then S - 1 - j else if Q = 2 then S - 1 - i else j
def bB (S Q i j : Int) : Int := if Q = 0 then j else if Q = 1 then i else if Q = 2 then S - 1 - j else S - 1 - i
end
section
/-! bounds over a tile -/
def sBnd (W H M S TX TY SX SY : Int) : Prop := 1 ≤ W ∧ W ≤ 512 ∧ 1 ≤ H ∧ H ≤ 512 ∧ 1 ≤ M ∧ M ≤ 16 ∧ 21 ≤ S ∧ S ≤ 177 ∧ 0 ≤ TX ∧ TX ≤ 512 ∧ 0 ≤ TY ∧ TY ≤ 512 ∧ 0 ≤ SX ∧ SX ≤ 512 ∧ 0 ≤ SY ∧ SY ≤ 512
theorem cS_max {D : Int → Int → Bool} {W H x y w h : Int} (a1 : 0 ≤ x) (a2 : 0 ≤ y) (a3 : 0 ≤ w) (a4 : 0 ≤ h) (a5 : w = 0 ∨ x + w ≤ W) (a6 : h = 0 ∨ y + h ≤ H) : cS D W H x y w h = cI D x y w h := by
  by_cases q : w ≤ 0
  · rw [cS_out (by omega), cI_0w D x y h q]
  · by_cases r : h ≤ 0
    · rw [cS_out (by omega), cI_0h D x y w r]
    · exact cS_in (by omega)
/-- r is no less than the dark dots of the box at any position of the tile; the number itself at a single one -/
def isMost (D : Int → Int → Bool) (SX SY x y w h r : Int) : Prop := (∀ dx dy, 0 ≤ dx → dx ≤ SX → 0 ≤ dy → dy ≤ SY → cI D (x + dx) (y + dy) w h ≤ r) ∧ (SX = 0 → SY = 0 → r = cI D x y w h) ∧ 0 ≤ r ∧ r ≤ w * h
def isLeast (D : Int → Int → Bool) (SX SY x y w h r : Int) : Prop := (∀ dx dy, 0 ≤ dx → dx ≤ SX → 0 ≤ dy → dy ≤ SY → r ≤ cI D (x + dx) (y + dy) w h) ∧ (SX = 0 → SY = 0 → r = cI D x y w h) ∧ -262144 ≤ r ∧ r ≤ w * h
theorem isMost_1 {D : Int → Int → Bool} {SX SY x y w h : Int} (q : SX = 0 ∧ SY = 0) (b : 1 ≤ w ∧ 1 ≤ h) : isMost D SX SY x y w h (cI D x y (w + SX) (h + SY)) := by
  obtain ⟨rfl, rfl⟩ := q
  rw [Int.add_zero, Int.add_zero]
  refine ⟨fun dx dy h1 h2 h3 h4 => ?_, fun _ _ => rfl, cI_nn _ _ _ _ _, cI_le _ _ _ (by omega) (by omega)⟩
  have e1 : dx = 0 := by omega
  have e2 : dy = 0 := by omega
  rw [e1, e2, Int.add_zero, Int.add_zero]; exact Int.le_refl _
theorem isMost_2 {D : Int → Int → Bool} {SX SY x y w h CW CH : Int} (a1 : 0 ≤ SX) (a2 : 0 ≤ SY) (b1 : 1 ≤ w) (b2 : 1 ≤ h) (kW : CW = max (w - SX) 0) (kH : CH = max (h - SY) 0) (q : ¬ (SX = 0 ∧ SY = 0)) :
    isMost D SX SY x y w h (min (cI D x y (w + SX) (h + SY)) (cI D (x + SX) (y + SY) CW CH + w * h - CW * CH)) := by
  have n1 := cI_nn D x y (w + SX) (h + SY)
  have n3 := cI_nn D (x + SX) (y + SY) CW CH
  have n4 := cI_le D (x + SX) (y + SY) (w := CW) (h := CH) (by omega) (by omega)
  have m5 : CW * CH ≤ w * h := Int.mul_le_mul (by omega) (by omega) (by omega) (by omega)
  refine ⟨fun dx dy h1 h2 h3 h4 => ?_, fun e1 e2 => absurd ⟨e1, e2⟩ q, by omega, by omega⟩
  have t := (cI_in (D := D) (x := x) (y := y) (w := w + SX) (h := h + SY) (x' := x + dx) (y' := y + dy) (w' := w) (h' := h) (by omega) (by omega) (by omega) (by omega) (by omega) (by omega)).1
  have u : cI D (x + dx) (y + dy) w h ≤ cI D (x + SX) (y + SY) CW CH + w * h - CW * CH := by
    by_cases c1 : SX < w
    · by_cases c2 : SY < h
      · have v := (cI_in (D := D) (x := x + dx) (y := y + dy) (w := w) (h := h) (x' := x + SX) (y' := y + SY) (w' := CW) (h' := CH) (by omega) (by omega) (by omega) (by omega) (by omega) (by omega)).2
        omega
      · have e : CH = 0 := by omega
        have v := cI_le D (x + dx) (y + dy) (w := w) (h := h) (by omega) (by omega)
        rw [e] at n3 ⊢; rw [Int.mul_zero]; omega
    · have e : CW = 0 := by omega
      have v := cI_le D (x + dx) (y + dy) (w := w) (h := h) (by omega) (by omega)
      rw [e] at n3 ⊢; rw [Int.zero_mul]; omega
  omega
theorem isLeast_1 {D : Int → Int → Bool} {SX SY x y w h : Int} (q : SX = 0 ∧ SY = 0) (b : 1 ≤ w ∧ 1 ≤ h) : isLeast D SX SY x y w h (cI D x y (w + SX) (h + SY)) := by
  obtain ⟨rfl, rfl⟩ := q
  rw [Int.add_zero, Int.add_zero]
  have n := cI_nn D x y w h
  refine ⟨fun dx dy h1 h2 h3 h4 => ?_, fun _ _ => rfl, by omega, cI_le _ _ _ (by omega) (by omega)⟩
  have e1 : dx = 0 := by omega
  have e2 : dy = 0 := by omega
  rw [e1, e2, Int.add_zero, Int.add_zero]; exact Int.le_refl _
theorem isLeast_2 {D : Int → Int → Bool} {SX SY x y w h C : Int} (a1 : 0 ≤ SX) (a2 : 0 ≤ SY) (b1 : 1 ≤ w) (b2 : 1 ≤ h) (b3 : w + SX ≤ 512) (b4 : h + SY ≤ 512) (hC : (w - SX ≤ 0 ∨ h - SY ≤ 0) ∧ C = 0 ∨ ¬ (w - SX ≤ 0 ∨ h - SY ≤ 0) ∧ C = cI D (x + SX) (y + SY) (w - SX) (h - SY)) (q : ¬ (SX = 0 ∧ SY = 0)) :
    isLeast D SX SY x y w h (max (cI D x y (w + SX) (h + SY) - ((w + SX) * (h + SY) - w * h)) C) := by
  have n1 := cI_nn D x y (w + SX) (h + SY)
  have l1 := cI_le D x y (w := w + SX) (h := h + SY) (by omega) (by omega)
  have m1 := mul_b (a := w + SX) (b := h + SY) (n := 512) (by omega) (by omega) (by omega) (by omega)
  have m2 := Int.mul_nonneg (show 0 ≤ w by omega) (show 0 ≤ h by omega)
  have hC2 : ∀ dx dy, 0 ≤ dx → dx ≤ SX → 0 ≤ dy → dy ≤ SY → C ≤ cI D (x + dx) (y + dy) w h := by
    intro dx dy h1 h2 h3 h4
    rcases hC with ⟨_, e⟩ | ⟨c, e⟩
    · rw [e]; exact cI_nn _ _ _ _ _
    · rw [e]; exact (cI_in (D := D) (x := x + dx) (y := y + dy) (w := w) (h := h) (x' := x + SX) (y' := y + SY) (w' := w - SX) (h' := h - SY) (by omega) (by omega) (by omega) (by omega) (by omega) (by omega)).1
  have c0 := hC2 0 0 (by omega) a1 (by omega) a2
  rw [Int.add_zero, Int.add_zero] at c0
  have l2 := cI_le D x y (w := w) (h := h) (by omega) (by omega)
  refine ⟨fun dx dy h1 h2 h3 h4 => ?_, fun e1 e2 => absurd ⟨e1, e2⟩ q, by omega, by omega⟩
  have t := (cI_in (D := D) (x := x) (y := y) (w := w + SX) (h := h + SY) (x' := x + dx) (y' := y + dy) (w' := w) (h' := h) (by omega) (by omega) (by omega) (by omega) (by omega) (by omega)).2
  have u := hC2 dx dy h1 h2 h3 h4
  omega
theorem sq_k (a M : Int) : a * M * (a * M) = a * a * (M * M) := by rw [Int.mul_assoc a M, Int.mul_left_comm M a M, Int.mul_assoc]
/-- the wrong dots of a corner's 7 times 7 modules -/
def w7 (D : Int → Int → Bool) (M x y : Int) : Int := 33 * (M * M) - cI D x y (7 * M) (7 * M) + 2 * cI D (x + M) (y + M) (5 * M) (5 * M) - 2 * cI D (x + 2 * M) (y + 2 * M) (3 * M) (3 * M)
theorem floor7 {D : Int → Int → Bool} {M SX SY x y a b c : Int} (h3 : isMost D SX SY (x + 2 * M) (y + 2 * M) (3 * M) (3 * M) a) (h5 : isLeast D SX SY (x + M) (y + M) (5 * M) (5 * M) b) (h7 : isMost D SX SY x y (7 * M) (7 * M) c) (hM : 1 ≤ M) :
    ∀ dx dy, 0 ≤ dx → dx ≤ SX → 0 ≤ dy → dy ≤ SY → 9 * M * M - a + max (b - a) 0 + max (24 * M * M - (c - b)) 0 ≤ w7 D M (x + dx) (y + dy) := by
  intro dx dy d1 d2 d3 d4
  have t3 := h3.1 dx dy d1 d2 d3 d4
  have t5 := h5.1 dx dy d1 d2 d3 d4
  have t7 := h7.1 dx dy d1 d2 d3 d4
  have x2 : x + 2 * M + dx = x + dx + 2 * M := by omega
  have y2 : y + 2 * M + dy = y + dy + 2 * M := by omega
  have x1 : x + M + dx = x + dx + M := by omega
  have y1 : y + M + dy = y + dy + M := by omega
  rw [x2, y2] at t3; rw [x1, y1] at t5
  have i3 := cI_in (D := D) (x := x + dx + M) (y := y + dy + M) (w := 5 * M) (h := 5 * M) (x' := x + dx + 2 * M) (y' := y + dy + 2 * M) (w' := 3 * M) (h' := 3 * M) (by omega) (by omega) (by omega) (by omega) (by omega) (by omega)
  have i5 := cI_in (D := D) (x := x + dx) (y := y + dy) (w := 7 * M) (h := 7 * M) (x' := x + dx + M) (y' := y + dy + M) (w' := 5 * M) (h' := 5 * M) (by omega) (by omega) (by omega) (by omega) (by omega) (by omega)
  have l3 := cI_le D (x + dx + 2 * M) (y + dy + 2 * M) (w := 3 * M) (h := 3 * M) (by omega) (by omega)
  have e3 : 3 * M * (3 * M) = 9 * (M * M) := sq_k 3 M
  have e5 : 5 * M * (5 * M) = 25 * (M * M) := sq_k 5 M
  have e7 : 7 * M * (7 * M) = 49 * (M * M) := sq_k 7 M
  have e9 : 9 * M * M = 9 * (M * M) := Int.mul_assoc _ _ _
  have e24 : 24 * M * M = 24 * (M * M) := Int.mul_assoc _ _ _
  unfold w7
  omega
/-- the dark dots of the light modules between a corner and the rest -/
def bd (D : Int → Int → Bool) (M k x y : Int) : Int := cI D (if k = 1 ∨ k = 2 then x - M else x + 7 * M) y M (7 * M) + cI D (if k = 1 ∨ k = 2 then x - M else x) (if 2 ≤ k then y - M else y + 7 * M) (8 * M) M
theorem bd_low {D : Int → Int → Bool} {M k SX SY x y a b zx mx zy : Int} (h1 : isLeast D SX SY zx y M (7 * M) a) (h2 : isLeast D SX SY mx zy (8 * M) M b) (ex : zx = if k = 1 ∨ k = 2 then x - M else x + 7 * M) (em : mx = if k = 1 ∨ k = 2 then x - M else x) (ey : zy = if 2 ≤ k then y - M else y + 7 * M) :
    ∀ dx dy, 0 ≤ dx → dx ≤ SX → 0 ≤ dy → dy ≤ SY → a + b ≤ bd D M k (x + dx) (y + dy) := by
  intro dx dy d1 d2 d3 d4
  have t1 := h1.1 dx dy d1 d2 d3 d4
  have t2 := h2.1 dx dy d1 d2 d3 d4
  unfold bd
  have f1 : zx + dx = if k = 1 ∨ k = 2 then x + dx - M else x + dx + 7 * M := by rw [ex]; split <;> omega
  have f2 : mx + dx = if k = 1 ∨ k = 2 then x + dx - M else x + dx := by rw [em]; split <;> omega
  have f3 : zy + dy = if 2 ≤ k then y + dy - M else y + dy + 7 * M := by rw [ey]; split <;> omega
  rw [f1] at t1; rw [f2, f3] at t2
  omega
/-- the wrong dots of a corner: 8 times 8 modules -/
def cW (D : Int → Int → Bool) (M k x y : Int) : Int := 33 * (M * M) + cI D (if k = 1 ∨ k = 2 then x - M else x) (if 2 ≤ k then y - M else y) (8 * M) (8 * M) - 2 * cI D x y (7 * M) (7 * M) + 2 * cI D (x + M) (y + M) (5 * M) (5 * M) - 2 * cI D (x + 2 * M) (y + 2 * M) (3 * M) (3 * M)
theorem cW_sum {D : Int → Int → Bool} {M k x y : Int} (hM : 1 ≤ M) : cW D M k x y = w7 D M x y + bd D M k x y := by
  unfold cW w7 bd
  by_cases r : k = 1 ∨ k = 2
  · rw [if_pos r, if_pos r]
    by_cases o : 2 ≤ k
    · rw [if_pos o, if_pos o]
      have s1 : cI D (x - M) (y - M) (8 * M) (M + 7 * M) = cI D (x - M) (y - M) (8 * M) M + cI D (x - M) (y - M + M) (8 * M) (7 * M) := cI_h _ _ (by omega) (by omega)
      have s2 : cI D (x - M) (y - M + M) (M + 7 * M) (7 * M) = cI D (x - M) (y - M + M) M (7 * M) + cI D (x - M + M) (y - M + M) (7 * M) (7 * M) := cI_w _ _ (by omega) (by omega)
      have e1 : M + 7 * M = 8 * M := by omega
      have e2 : y - M + M = y := by omega
      have e3 : x - M + M = x := by omega
      rw [e1] at s1 s2; rw [e2] at s1; rw [e2, e3] at s2
      omega
    · rw [if_neg o, if_neg o]
      have s1 : cI D (x - M) y (8 * M) (7 * M + M) = cI D (x - M) y (8 * M) (7 * M) + cI D (x - M) (y + 7 * M) (8 * M) M := cI_h _ _ (by omega) (by omega)
      have s2 : cI D (x - M) y (M + 7 * M) (7 * M) = cI D (x - M) y M (7 * M) + cI D (x - M + M) y (7 * M) (7 * M) := cI_w _ _ (by omega) (by omega)
      have e1 : M + 7 * M = 8 * M := by omega
      have e4 : 7 * M + M = 8 * M := by omega
      have e3 : x - M + M = x := by omega
      rw [e4] at s1; rw [e1, e3] at s2
      omega
  · rw [if_neg r, if_neg r]
    by_cases o : 2 ≤ k
    · rw [if_pos o, if_pos o]
      have s1 : cI D x (y - M) (8 * M) (M + 7 * M) = cI D x (y - M) (8 * M) M + cI D x (y - M + M) (8 * M) (7 * M) := cI_h _ _ (by omega) (by omega)
      have s2 : cI D x (y - M + M) (7 * M + M) (7 * M) = cI D x (y - M + M) (7 * M) (7 * M) + cI D (x + 7 * M) (y - M + M) M (7 * M) := cI_w _ _ (by omega) (by omega)
      have e1 : M + 7 * M = 8 * M := by omega
      have e4 : 7 * M + M = 8 * M := by omega
      have e2 : y - M + M = y := by omega
      rw [e1, e2] at s1; rw [e4, e2] at s2
      omega
    · rw [if_neg o, if_neg o]
      have s1 : cI D x y (8 * M) (7 * M + M) = cI D x y (8 * M) (7 * M) + cI D x (y + 7 * M) (8 * M) M := cI_h _ _ (by omega) (by omega)
      have s2 : cI D x y (7 * M + M) (7 * M) = cI D x y (7 * M) (7 * M) + cI D (x + 7 * M) y M (7 * M) := cI_w _ _ (by omega) (by omega)
      have e4 : 7 * M + M = 8 * M := by omega
      rw [e4] at s1; rw [e4] at s2
      omega
end
section
/-! the list of places in order -/
abbrev better (wf : Nat → Int32) (o t : Int) : Prop := (wf o.toNat).toInt < (wf t.toNat).toInt ∨ (wf o.toNat).toInt = (wf t.toNat).toInt ∧ o < t
def isIns (n : Int) (a x : Int32) (kf wf kg wg : Nat → Int32) : Prop := ∃ p : Nat, (p : Int) ≤ n ∧ (∀ i : Nat, i < p → kg i = kf i ∧ wg i = wf i) ∧ kg p = a ∧ wg p = x ∧ (∀ i : Nat, p ≤ i → (i : Int) < n → kg (i + 1) = kf i ∧ wg (i + 1) = wf i ∧ a < kf i) ∧ (p = 0 ∨ ¬ a < kf (p - 1))
theorem ins_step {n zix : Int} {a1 : Int32} {kf wf kc wc k2 w2 : Nat → Int32} {v35 v52 v66 : Int32} (i1 : 0 ≤ zix ∧ zix ≤ n) (i2 : ∀ i : Nat, (i : Int) < zix → kc i = kf i ∧ wc i = wf i) (i3 : ∀ i : Nat, zix ≤ (i : Int) → (i : Int) < n → kc (i + 1) = kf i ∧ wc (i + 1) = wf i ∧ a1 < kf i)
    (ek : k2 = upd kc zix.toNat v52) (ew : w2 = upd wc zix.toNat v66) (e35 : v35 = kc (zix - 1).toNat) (e52 : v52 = kc (zix - 1).toNat) (e66 : v66 = wc (zix - 1).toNat) (c : a1 < v35) (h0 : 0 < zix) :
    ∀ i : Nat, zix + (-1) ≤ (i : Int) → (i : Int) < n → k2 (i + 1) = kf i ∧ w2 (i + 1) = wf i ∧ a1 < kf i := by
  intro i q1 q2
  by_cases e : (i : Int) = zix - 1
  · have z : zix.toNat = i + 1 := by omega
    have z2 : (zix - 1).toNat = i := by omega
    rw [ek, ew, z, pk_us, pk_us, e52, e66, z2]
    rw [e35, z2] at c
    have t := i2 i (by omega)
    exact ⟨t.1, t.2, by rw [← t.1]; exact c⟩
  · rw [ek, ew, pk_un (by omega), pk_un (by omega)]
    exact i3 i (by omega) q2
theorem ins_end {n zix : Int} {a1 a2 : Int32} {kf wf kc wc k2 w2 : Nat → Int32} (i1 : 0 ≤ zix ∧ zix ≤ n) (i2 : ∀ i : Nat, (i : Int) < zix → kc i = kf i ∧ wc i = wf i) (i3 : ∀ i : Nat, zix ≤ (i : Int) → (i : Int) < n → kc (i + 1) = kf i ∧ wc (i + 1) = wf i ∧ a1 < kf i)
    (ek : k2 = upd kc zix.toNat a1) (ew : w2 = upd wc zix.toNat a2) (c : zix ≤ 0 ∨ ¬ a1 < kc (zix - 1).toNat) : isIns n a1 a2 kf wf k2 w2 := by
  refine ⟨zix.toNat, by omega, fun i q => ?_, by rw [ek, pk_us], by rw [ew, pk_us], fun i q1 q2 => ?_, ?_⟩
  · rw [ek, ew, pk_un (by omega), pk_un (by omega)]; exact i2 i (by omega)
  · rw [ek, ew, pk_un (by omega), pk_un (by omega)]; exact i3 i (by omega) q2
  · rcases c with c | c
    · exact Or.inl (by omega)
    · by_cases z : zix ≤ 0
      · exact Or.inl (by omega)
      · right
        have e : (zix - 1).toNat = zix.toNat - 1 := by omega
        rw [e, (i2 (zix.toNat - 1) (by omega)).1] at c
        exact c
def lead (n : Int) (kf wf : Nat → Int32) (t : Int) : Prop := ∀ o : Int, 0 ≤ o → o < n → ¬ (better wf o t ∧ comm (kf o.toNat).toInt (kf t.toNat).toInt)
end
section
/-! a call's words, all methods having the same list behind their own code -/
section calls
variable {R : Room} {s : State} {args : Array Value} {own C : String} {idx nL mc ms : Nat} {y : MethodName} {b : ByteArray} {ret : Option FieldType} {rm : Room}
theorem aw_ws (h : Cond.code y b nL ret ∈ allw) : GoodIn allw (Cond.code y b nL ret :: allw) := fun w hw => (List.mem_cons.mp hw).elim (fun e => by subst e; exact ⟨h, allw_good h⟩) (fun h => ⟨h, allw_good h⟩)
theorem aw_V (n : Nat) (hts : ∀ w ∈ allw, w.before args s = true) (h1 : Cond.methodLink own idx y ∈ allw) (h2 : Cond.instanceMethod y ∈ allw) (h3 : Cond.selects C y y ∈ allw) (h4 : Cond.initialized C ∈ allw) (h5 : Cond.code y b nL ret ∈ allw) (hrc : rm.cells = mc) (hrs : rm.slots = ms)
    (hd : y.cls = C ∧ y.cls ≠ "java/lang/invoke/MethodHandle" ∧ y.cls ≠ "java/lang/invoke/VarHandle" ∧ (parseMethodDescriptor y.desc).map (fun d => d.parameters.length) = some n) (hR : rm.frames + 1 ≤ R.frames ∧ 8 + (nL + 11) + rm.locals ≤ R.locals) :
    CallW R s args own C idx y b nL ret (Cond.code y b nL ret :: allw) rm mc ms n :=
  cwV n hts (goodIn_app (a := [Cond.methodLink own idx y, .instanceMethod y, .selects C y y, .initialized C]) (fun w hw => by
    simp only [List.mem_cons, List.not_mem_nil, or_false] at hw
    rcases hw with rfl | rfl | rfl | rfl
    · exact ⟨h1, allw_good h1⟩
    · exact ⟨h2, allw_good h2⟩
    · exact ⟨h3, allw_good h3⟩
    · exact ⟨h4, allw_good h4⟩) (aw_ws h5)) rfl hrc hrs hd hR
theorem aw_S (n : Nat) (hts : ∀ w ∈ allw, w.before args s = true) (h1 : Cond.methodLink own idx y ∈ allw) (h2 : Cond.static y ∈ allw) (h4 : Cond.initialized y.cls ∈ allw) (h5 : Cond.code y b nL ret ∈ allw) (hrc : rm.cells = mc) (hrs : rm.slots = ms)
    (hd : y.cls ≠ "java/lang/invoke/MethodHandle" ∧ y.cls ≠ "java/lang/invoke/VarHandle" ∧ (parseMethodDescriptor y.desc).map (fun d => d.parameters.length) = some n) (hR : rm.frames + 1 ≤ R.frames ∧ 8 + (nL + 11) + rm.locals ≤ R.locals) :
    CallB R s args own idx y b nL ret (Cond.code y b nL ret :: allw) rm mc ms n ∧ (Cond.static y).before args s = true :=
  va_cwS n hts (goodIn_app (a := [Cond.methodLink own idx y, .static y, .initialized y.cls]) (fun w hw => by
    simp only [List.mem_cons, List.not_mem_nil, or_false] at hw
    rcases hw with rfl | rfl | rfl
    · exact ⟨h1, allw_good h1⟩
    · exact ⟨h2, allw_good h2⟩
    · exact ⟨h4, allw_good h4⟩) (aw_ws h5)) rfl hrc hrs hd hR
end calls
end
