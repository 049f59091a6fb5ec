section
-- ===== PART A: goes FIRST, ahead of the names: the tables' words, and 'selects' of the private methods out of them =====
/-- a private method of a class that the tables say can be made, by its rows of tables_1 -/
def lw_okq (q : MethodName × Nat) : Prop := (q.1.cls ≠ "java/lang/invoke/MethodHandle" ∧ q.1.cls ≠ "java/lang/invoke/VarHandle") ∧ Cond.instantiable q.1.cls q.2 ∈ tables_1 ∧ Cond.privateMethod q.1 ∈ tables_1 ∧ Cond.instanceMethod q.1 ∈ tables_1
theorem lw_p0 : lw_okq (⟨"java/lang/Throwable", "fillInStackTrace", "(I)Ljava/lang/Throwable;"⟩, 6) := ⟨⟨by decide +kernel, by decide +kernel⟩, List.mem_of_getElem? (i := 220) (by decide +kernel), List.mem_of_getElem? (i := 218) (by decide +kernel), List.mem_of_getElem? (i := 219) (by decide +kernel)⟩
theorem lw_p1 : lw_okq (⟨"PlaceFinder", "drawFixed", "(LPlaceFinder$Place;)I"⟩, 4) := ⟨⟨by decide +kernel, by decide +kernel⟩, List.mem_of_getElem? (i := 17) (by decide +kernel), List.mem_of_getElem? (i := 340) (by decide +kernel), List.mem_of_getElem? (i := 341) (by decide +kernel)⟩
theorem lw_p2 : lw_okq (⟨"PlaceFinder", "drawCorner", "(LPlaceFinder$Place;II)I"⟩, 4) := ⟨⟨by decide +kernel, by decide +kernel⟩, List.mem_of_getElem? (i := 17) (by decide +kernel), List.mem_of_getElem? (i := 344) (by decide +kernel), List.mem_of_getElem? (i := 345) (by decide +kernel)⟩
theorem lw_p3 : lw_okq (⟨"PlaceFinder", "drawModule", "(LPlaceFinder$Place;IIZ)I"⟩, 4) := ⟨⟨by decide +kernel, by decide +kernel⟩, List.mem_of_getElem? (i := 17) (by decide +kernel), List.mem_of_getElem? (i := 356) (by decide +kernel), List.mem_of_getElem? (i := 357) (by decide +kernel)⟩
theorem lw_p4 : lw_okq (⟨"PlaceFinder$Paper", "isLight", "(I)Z"⟩, 5) := ⟨⟨by decide +kernel, by decide +kernel⟩, List.mem_of_getElem? (i := 31) (by decide +kernel), List.mem_of_getElem? (i := 381) (by decide +kernel), List.mem_of_getElem? (i := 382) (by decide +kernel)⟩
theorem lw_p5 : lw_okq (⟨"PlaceFinder$Paper", "addUpRow", "(I)V"⟩, 5) := ⟨⟨by decide +kernel, by decide +kernel⟩, List.mem_of_getElem? (i := 31) (by decide +kernel), List.mem_of_getElem? (i := 388) (by decide +kernel), List.mem_of_getElem? (i := 389) (by decide +kernel)⟩
theorem lw_p6 : lw_okq (⟨"PlaceFinder$Search", "siftFinders", "(IIIII)V"⟩, 14) := ⟨⟨by decide +kernel, by decide +kernel⟩, List.mem_of_getElem? (i := 25) (by decide +kernel), List.mem_of_getElem? (i := 399) (by decide +kernel), List.mem_of_getElem? (i := 400) (by decide +kernel)⟩
theorem lw_p7 : lw_okq (⟨"PlaceFinder$Search", "takeTile", "(IIII)V"⟩, 14) := ⟨⟨by decide +kernel, by decide +kernel⟩, List.mem_of_getElem? (i := 25) (by decide +kernel), List.mem_of_getElem? (i := 403) (by decide +kernel), List.mem_of_getElem? (i := 404) (by decide +kernel)⟩
theorem lw_p8 : lw_okq (⟨"PlaceFinder$Search", "finderFloor", "(II)I"⟩, 14) := ⟨⟨by decide +kernel, by decide +kernel⟩, List.mem_of_getElem? (i := 25) (by decide +kernel), List.mem_of_getElem? (i := 407) (by decide +kernel), List.mem_of_getElem? (i := 408) (by decide +kernel)⟩
theorem lw_p9 : lw_okq (⟨"PlaceFinder$Search", "mostDark", "(IIII)I"⟩, 14) := ⟨⟨by decide +kernel, by decide +kernel⟩, List.mem_of_getElem? (i := 25) (by decide +kernel), List.mem_of_getElem? (i := 411) (by decide +kernel), List.mem_of_getElem? (i := 412) (by decide +kernel)⟩
theorem lw_p10 : lw_okq (⟨"PlaceFinder$Search", "isSingle", "()Z"⟩, 14) := ⟨⟨by decide +kernel, by decide +kernel⟩, List.mem_of_getElem? (i := 25) (by decide +kernel), List.mem_of_getElem? (i := 419) (by decide +kernel), List.mem_of_getElem? (i := 420) (by decide +kernel)⟩
theorem lw_p11 : lw_okq (⟨"PlaceFinder$Search", "leastDark", "(IIII)I"⟩, 14) := ⟨⟨by decide +kernel, by decide +kernel⟩, List.mem_of_getElem? (i := 25) (by decide +kernel), List.mem_of_getElem? (i := 424) (by decide +kernel), List.mem_of_getElem? (i := 425) (by decide +kernel)⟩
theorem lw_p12 : lw_okq (⟨"PlaceFinder$Search", "isAlike", "(III)Z"⟩, 14) := ⟨⟨by decide +kernel, by decide +kernel⟩, List.mem_of_getElem? (i := 25) (by decide +kernel), List.mem_of_getElem? (i := 428) (by decide +kernel), List.mem_of_getElem? (i := 429) (by decide +kernel)⟩
theorem lw_p13 : lw_okq (⟨"PlaceFinder$Search", "siftVersions", "(IIII)V"⟩, 14) := ⟨⟨by decide +kernel, by decide +kernel⟩, List.mem_of_getElem? (i := 25) (by decide +kernel), List.mem_of_getElem? (i := 432) (by decide +kernel), List.mem_of_getElem? (i := 433) (by decide +kernel)⟩
theorem lw_p14 : lw_okq (⟨"PlaceFinder$Search", "cornerWrong", "(III)I"⟩, 14) := ⟨⟨by decide +kernel, by decide +kernel⟩, List.mem_of_getElem? (i := 25) (by decide +kernel), List.mem_of_getElem? (i := 436) (by decide +kernel), List.mem_of_getElem? (i := 437) (by decide +kernel)⟩
theorem lw_p15 : lw_okq (⟨"PlaceFinder$Search", "siftPlaces", "(IIIIIII)V"⟩, 14) := ⟨⟨by decide +kernel, by decide +kernel⟩, List.mem_of_getElem? (i := 25) (by decide +kernel), List.mem_of_getElem? (i := 446) (by decide +kernel), List.mem_of_getElem? (i := 447) (by decide +kernel)⟩
def lw_privs_1 : List (MethodName × Nat) := [(⟨"java/lang/Throwable", "fillInStackTrace", "(I)Ljava/lang/Throwable;"⟩, 6), (⟨"PlaceFinder", "drawFixed", "(LPlaceFinder$Place;)I"⟩, 4), (⟨"PlaceFinder", "drawCorner", "(LPlaceFinder$Place;II)I"⟩, 4), (⟨"PlaceFinder", "drawModule", "(LPlaceFinder$Place;IIZ)I"⟩, 4), (⟨"PlaceFinder$Paper", "isLight", "(I)Z"⟩, 5), (⟨"PlaceFinder$Paper", "addUpRow", "(I)V"⟩, 5), (⟨"PlaceFinder$Search", "siftFinders", "(IIIII)V"⟩, 14), (⟨"PlaceFinder$Search", "takeTile", "(IIII)V"⟩, 14), (⟨"PlaceFinder$Search", "finderFloor", "(II)I"⟩, 14), (⟨"PlaceFinder$Search", "mostDark", "(IIII)I"⟩, 14), (⟨"PlaceFinder$Search", "isSingle", "()Z"⟩, 14), (⟨"PlaceFinder$Search", "leastDark", "(IIII)I"⟩, 14), (⟨"PlaceFinder$Search", "isAlike", "(III)Z"⟩, 14), (⟨"PlaceFinder$Search", "siftVersions", "(IIII)V"⟩, 14), (⟨"PlaceFinder$Search", "cornerWrong", "(III)I"⟩, 14), (⟨"PlaceFinder$Search", "siftPlaces", "(IIIIIII)V"⟩, 14)]
theorem lw_r1 : ∀ q ∈ lw_privs_1, lw_okq q := List.forall_mem_cons.mpr ⟨lw_p0, List.forall_mem_cons.mpr ⟨lw_p1, List.forall_mem_cons.mpr ⟨lw_p2, List.forall_mem_cons.mpr ⟨lw_p3, List.forall_mem_cons.mpr ⟨lw_p4, List.forall_mem_cons.mpr ⟨lw_p5, List.forall_mem_cons.mpr ⟨lw_p6, List.forall_mem_cons.mpr ⟨lw_p7, List.forall_mem_cons.mpr ⟨lw_p8, List.forall_mem_cons.mpr ⟨lw_p9, List.forall_mem_cons.mpr ⟨lw_p10, List.forall_mem_cons.mpr ⟨lw_p11, List.forall_mem_cons.mpr ⟨lw_p12, List.forall_mem_cons.mpr ⟨lw_p13, List.forall_mem_cons.mpr ⟨lw_p14, List.forall_mem_cons.mpr ⟨lw_p15, fun _ h => absurd h List.not_mem_nil⟩⟩⟩⟩⟩⟩⟩⟩⟩⟩⟩⟩⟩⟩⟩⟩
theorem lw_p16 : lw_okq (⟨"PlaceFinder$Search", "finderX", "(I)I"⟩, 14) := ⟨⟨by decide +kernel, by decide +kernel⟩, List.mem_of_getElem? (i := 25) (by decide +kernel), List.mem_of_getElem? (i := 453) (by decide +kernel), List.mem_of_getElem? (i := 454) (by decide +kernel)⟩
theorem lw_p17 : lw_okq (⟨"PlaceFinder$Search", "finderY", "(I)I"⟩, 14) := ⟨⟨by decide +kernel, by decide +kernel⟩, List.mem_of_getElem? (i := 25) (by decide +kernel), List.mem_of_getElem? (i := 457) (by decide +kernel), List.mem_of_getElem? (i := 458) (by decide +kernel)⟩
theorem lw_p18 : lw_okq (⟨"PlaceFinder$Search", "borderFloor", "(III)I"⟩, 14) := ⟨⟨by decide +kernel, by decide +kernel⟩, List.mem_of_getElem? (i := 25) (by decide +kernel), List.mem_of_getElem? (i := 461) (by decide +kernel), List.mem_of_getElem? (i := 462) (by decide +kernel)⟩
theorem lw_p19 : lw_okq (⟨"PlaceFinder$Search", "withCorner", "(III)I"⟩, 14) := ⟨⟨by decide +kernel, by decide +kernel⟩, List.mem_of_getElem? (i := 25) (by decide +kernel), List.mem_of_getElem? (i := 465) (by decide +kernel), List.mem_of_getElem? (i := 466) (by decide +kernel)⟩
theorem lw_p20 : lw_okq (⟨"PlaceFinder$Search", "spotFloor", "(I)I"⟩, 14) := ⟨⟨by decide +kernel, by decide +kernel⟩, List.mem_of_getElem? (i := 25) (by decide +kernel), List.mem_of_getElem? (i := 469) (by decide +kernel), List.mem_of_getElem? (i := 470) (by decide +kernel)⟩
theorem lw_p21 : lw_okq (⟨"PlaceFinder$Search", "lineFloor", "(I)I"⟩, 14) := ⟨⟨by decide +kernel, by decide +kernel⟩, List.mem_of_getElem? (i := 25) (by decide +kernel), List.mem_of_getElem? (i := 473) (by decide +kernel), List.mem_of_getElem? (i := 474) (by decide +kernel)⟩
theorem lw_p22 : lw_okq (⟨"PlaceFinder$Search", "lineX", "(I)I"⟩, 14) := ⟨⟨by decide +kernel, by decide +kernel⟩, List.mem_of_getElem? (i := 25) (by decide +kernel), List.mem_of_getElem? (i := 477) (by decide +kernel), List.mem_of_getElem? (i := 478) (by decide +kernel)⟩
theorem lw_p23 : lw_okq (⟨"PlaceFinder$Search", "lineY", "(I)I"⟩, 14) := ⟨⟨by decide +kernel, by decide +kernel⟩, List.mem_of_getElem? (i := 25) (by decide +kernel), List.mem_of_getElem? (i := 481) (by decide +kernel), List.mem_of_getElem? (i := 482) (by decide +kernel)⟩
theorem lw_p24 : lw_okq (⟨"PlaceFinder$Search", "judge", "(I)V"⟩, 14) := ⟨⟨by decide +kernel, by decide +kernel⟩, List.mem_of_getElem? (i := 25) (by decide +kernel), List.mem_of_getElem? (i := 485) (by decide +kernel), List.mem_of_getElem? (i := 486) (by decide +kernel)⟩
theorem lw_p25 : lw_okq (⟨"PlaceFinder$Search", "withLine", "(II)I"⟩, 14) := ⟨⟨by decide +kernel, by decide +kernel⟩, List.mem_of_getElem? (i := 25) (by decide +kernel), List.mem_of_getElem? (i := 489) (by decide +kernel), List.mem_of_getElem? (i := 490) (by decide +kernel)⟩
theorem lw_p26 : lw_okq (⟨"PlaceFinder$PlaceList", "leads", "(I)Z"⟩, 3) := ⟨⟨by decide +kernel, by decide +kernel⟩, List.mem_of_getElem? (i := 60) (by decide +kernel), List.mem_of_getElem? (i := 503) (by decide +kernel), List.mem_of_getElem? (i := 504) (by decide +kernel)⟩
theorem lw_p27 : lw_okq (⟨"PlaceFinder$PlaceList", "isBetter", "(II)Z"⟩, 3) := ⟨⟨by decide +kernel, by decide +kernel⟩, List.mem_of_getElem? (i := 60) (by decide +kernel), List.mem_of_getElem? (i := 507) (by decide +kernel), List.mem_of_getElem? (i := 508) (by decide +kernel)⟩
theorem lw_p28 : lw_okq (⟨"PlaceFinder", "isMostlyDark", "(LPlaceFinder$Place;II)Z"⟩, 4) := ⟨⟨by decide +kernel, by decide +kernel⟩, List.mem_of_getElem? (i := 17) (by decide +kernel), List.mem_of_getElem? (i := 550) (by decide +kernel), List.mem_of_getElem? (i := 551) (by decide +kernel)⟩
theorem lw_p29 : lw_okq (⟨"PlaceFinderModel", "forget", "()V"⟩, 11) := ⟨⟨by decide +kernel, by decide +kernel⟩, List.mem_of_getElem? (i := 558) (by decide +kernel), List.mem_of_getElem? (i := 609) (by decide +kernel), List.mem_of_getElem? (i := 610) (by decide +kernel)⟩
theorem lw_p30 : lw_okq (⟨"PlaceFinderModel", "isOn", "(JJ)Z"⟩, 11) := ⟨⟨by decide +kernel, by decide +kernel⟩, List.mem_of_getElem? (i := 558) (by decide +kernel), List.mem_of_getElem? (i := 617) (by decide +kernel), List.mem_of_getElem? (i := 618) (by decide +kernel)⟩
theorem lw_p31 : lw_okq (⟨"PlaceFinderModel", "isDark", "(II)Z"⟩, 11) := ⟨⟨by decide +kernel, by decide +kernel⟩, List.mem_of_getElem? (i := 558) (by decide +kernel), List.mem_of_getElem? (i := 621) (by decide +kernel), List.mem_of_getElem? (i := 622) (by decide +kernel)⟩
def lw_privs_2 : List (MethodName × Nat) := [(⟨"PlaceFinder$Search", "finderX", "(I)I"⟩, 14), (⟨"PlaceFinder$Search", "finderY", "(I)I"⟩, 14), (⟨"PlaceFinder$Search", "borderFloor", "(III)I"⟩, 14), (⟨"PlaceFinder$Search", "withCorner", "(III)I"⟩, 14), (⟨"PlaceFinder$Search", "spotFloor", "(I)I"⟩, 14), (⟨"PlaceFinder$Search", "lineFloor", "(I)I"⟩, 14), (⟨"PlaceFinder$Search", "lineX", "(I)I"⟩, 14), (⟨"PlaceFinder$Search", "lineY", "(I)I"⟩, 14), (⟨"PlaceFinder$Search", "judge", "(I)V"⟩, 14), (⟨"PlaceFinder$Search", "withLine", "(II)I"⟩, 14), (⟨"PlaceFinder$PlaceList", "leads", "(I)Z"⟩, 3), (⟨"PlaceFinder$PlaceList", "isBetter", "(II)Z"⟩, 3), (⟨"PlaceFinder", "isMostlyDark", "(LPlaceFinder$Place;II)Z"⟩, 4), (⟨"PlaceFinderModel", "forget", "()V"⟩, 11), (⟨"PlaceFinderModel", "isOn", "(JJ)Z"⟩, 11), (⟨"PlaceFinderModel", "isDark", "(II)Z"⟩, 11)]
theorem lw_r2 : ∀ q ∈ lw_privs_2, lw_okq q := List.forall_mem_cons.mpr ⟨lw_p16, List.forall_mem_cons.mpr ⟨lw_p17, List.forall_mem_cons.mpr ⟨lw_p18, List.forall_mem_cons.mpr ⟨lw_p19, List.forall_mem_cons.mpr ⟨lw_p20, List.forall_mem_cons.mpr ⟨lw_p21, List.forall_mem_cons.mpr ⟨lw_p22, List.forall_mem_cons.mpr ⟨lw_p23, List.forall_mem_cons.mpr ⟨lw_p24, List.forall_mem_cons.mpr ⟨lw_p25, List.forall_mem_cons.mpr ⟨lw_p26, List.forall_mem_cons.mpr ⟨lw_p27, List.forall_mem_cons.mpr ⟨lw_p28, List.forall_mem_cons.mpr ⟨lw_p29, List.forall_mem_cons.mpr ⟨lw_p30, List.forall_mem_cons.mpr ⟨lw_p31, fun _ h => absurd h List.not_mem_nil⟩⟩⟩⟩⟩⟩⟩⟩⟩⟩⟩⟩⟩⟩⟩⟩
theorem lw_p32 : lw_okq (⟨"PlaceFinderModel", "isPlace", "(III)Z"⟩, 11) := ⟨⟨by decide +kernel, by decide +kernel⟩, List.mem_of_getElem? (i := 558) (by decide +kernel), List.mem_of_getElem? (i := 640) (by decide +kernel), List.mem_of_getElem? (i := 641) (by decide +kernel)⟩
theorem lw_p33 : lw_okq (⟨"PlaceFinderModel", "differ", "(IIIZZ)I"⟩, 11) := ⟨⟨by decide +kernel, by decide +kernel⟩, List.mem_of_getElem? (i := 558) (by decide +kernel), List.mem_of_getElem? (i := 659) (by decide +kernel), List.mem_of_getElem? (i := 660) (by decide +kernel)⟩
theorem lw_p34 : lw_okq (⟨"PlaceFinderModel", "add", "()V"⟩, 11) := ⟨⟨by decide +kernel, by decide +kernel⟩, List.mem_of_getElem? (i := 558) (by decide +kernel), List.mem_of_getElem? (i := 667) (by decide +kernel), List.mem_of_getElem? (i := 668) (by decide +kernel)⟩
theorem lw_p35 : lw_okq (⟨"PlaceFinderModel", "list", "(I)V"⟩, 11) := ⟨⟨by decide +kernel, by decide +kernel⟩, List.mem_of_getElem? (i := 558) (by decide +kernel), List.mem_of_getElem? (i := 671) (by decide +kernel), List.mem_of_getElem? (i := 672) (by decide +kernel)⟩
theorem lw_p36 : lw_okq (⟨"PlaceFinderModel", "look", "(III)Z"⟩, 11) := ⟨⟨by decide +kernel, by decide +kernel⟩, List.mem_of_getElem? (i := 558) (by decide +kernel), List.mem_of_getElem? (i := 675) (by decide +kernel), List.mem_of_getElem? (i := 676) (by decide +kernel)⟩
theorem lw_p37 : lw_okq (⟨"PlaceFinderModel", "wrong", "(IIIIII)I"⟩, 11) := ⟨⟨by decide +kernel, by decide +kernel⟩, List.mem_of_getElem? (i := 558) (by decide +kernel), List.mem_of_getElem? (i := 679) (by decide +kernel), List.mem_of_getElem? (i := 680) (by decide +kernel)⟩
theorem lw_p38 : lw_okq (⟨"PlaceFinderModel", "darkIn", "(IIIIII)I"⟩, 11) := ⟨⟨by decide +kernel, by decide +kernel⟩, List.mem_of_getElem? (i := 558) (by decide +kernel), List.mem_of_getElem? (i := 683) (by decide +kernel), List.mem_of_getElem? (i := 684) (by decide +kernel)⟩
theorem lw_p39 : lw_okq (⟨"PlaceFinderModel", "enter", "(IIIIII)V"⟩, 11) := ⟨⟨by decide +kernel, by decide +kernel⟩, List.mem_of_getElem? (i := 558) (by decide +kernel), List.mem_of_getElem? (i := 690) (by decide +kernel), List.mem_of_getElem? (i := 691) (by decide +kernel)⟩
theorem lw_p40 : lw_okq (⟨"PlaceFinderModel", "order", "()V"⟩, 11) := ⟨⟨by decide +kernel, by decide +kernel⟩, List.mem_of_getElem? (i := 558) (by decide +kernel), List.mem_of_getElem? (i := 694) (by decide +kernel), List.mem_of_getElem? (i := 695) (by decide +kernel)⟩
theorem lw_p41 : lw_okq (⟨"PlaceFinderModel", "isBefore", "(II)Z"⟩, 11) := ⟨⟨by decide +kernel, by decide +kernel⟩, List.mem_of_getElem? (i := 558) (by decide +kernel), List.mem_of_getElem? (i := 698) (by decide +kernel), List.mem_of_getElem? (i := 699) (by decide +kernel)⟩
theorem lw_p42 : lw_okq (⟨"PlaceFinderModel", "leads", "(I)Z"⟩, 11) := ⟨⟨by decide +kernel, by decide +kernel⟩, List.mem_of_getElem? (i := 558) (by decide +kernel), List.mem_of_getElem? (i := 702) (by decide +kernel), List.mem_of_getElem? (i := 703) (by decide +kernel)⟩
theorem lw_p43 : lw_okq (⟨"PlaceFinderModel", "meet", "(II)Z"⟩, 11) := ⟨⟨by decide +kernel, by decide +kernel⟩, List.mem_of_getElem? (i := 558) (by decide +kernel), List.mem_of_getElem? (i := 706) (by decide +kernel), List.mem_of_getElem? (i := 707) (by decide +kernel)⟩
def lw_privs_3 : List (MethodName × Nat) := [(⟨"PlaceFinderModel", "isPlace", "(III)Z"⟩, 11), (⟨"PlaceFinderModel", "differ", "(IIIZZ)I"⟩, 11), (⟨"PlaceFinderModel", "add", "()V"⟩, 11), (⟨"PlaceFinderModel", "list", "(I)V"⟩, 11), (⟨"PlaceFinderModel", "look", "(III)Z"⟩, 11), (⟨"PlaceFinderModel", "wrong", "(IIIIII)I"⟩, 11), (⟨"PlaceFinderModel", "darkIn", "(IIIIII)I"⟩, 11), (⟨"PlaceFinderModel", "enter", "(IIIIII)V"⟩, 11), (⟨"PlaceFinderModel", "order", "()V"⟩, 11), (⟨"PlaceFinderModel", "isBefore", "(II)Z"⟩, 11), (⟨"PlaceFinderModel", "leads", "(I)Z"⟩, 11), (⟨"PlaceFinderModel", "meet", "(II)Z"⟩, 11)]
theorem lw_r3 : ∀ q ∈ lw_privs_3, lw_okq q := List.forall_mem_cons.mpr ⟨lw_p32, List.forall_mem_cons.mpr ⟨lw_p33, List.forall_mem_cons.mpr ⟨lw_p34, List.forall_mem_cons.mpr ⟨lw_p35, List.forall_mem_cons.mpr ⟨lw_p36, List.forall_mem_cons.mpr ⟨lw_p37, List.forall_mem_cons.mpr ⟨lw_p38, List.forall_mem_cons.mpr ⟨lw_p39, List.forall_mem_cons.mpr ⟨lw_p40, List.forall_mem_cons.mpr ⟨lw_p41, List.forall_mem_cons.mpr ⟨lw_p42, List.forall_mem_cons.mpr ⟨lw_p43, fun _ h => absurd h List.not_mem_nil⟩⟩⟩⟩⟩⟩⟩⟩⟩⟩⟩⟩
def lw_privs : List (MethodName × Nat) := lw_privs_1 ++ (lw_privs_2 ++ (lw_privs_3))
def lw_tbl : List Cond := k2_sels lw_privs ++ tables_1
theorem lw_privs_ok : ∀ q ∈ lw_privs, lw_okq q := by
  show ∀ q ∈ lw_privs_1 ++ (lw_privs_2 ++ (lw_privs_3)), lw_okq q
  exact List.forall_mem_append.mpr ⟨lw_r1, List.forall_mem_append.mpr ⟨lw_r2, lw_r3⟩⟩
-- ===== end of PART A; then your names; then what follows =====
end
section
/-! ===== BEGIN words of one list among another's, by their places ===== -/
theorem goodIn_r {big : List Cond} (ws : List Cond) (ps : List Nat) (hp : ws = ps.filterMap (fun i => big[i]?)) (h : ws.all goodWord = true) : GoodIn big ws := by
  intro w hw
  have h1 := List.all_eq_true.mp h w hw
  rw [hp] at hw
  obtain ⟨i, -, hi⟩ := List.mem_filterMap.mp hw
  have hm : w ∈ big := by first | exact List.mem_of_getElem? hi | exact List.getElem?_mem hi
  exact ⟨hm, good_of_word h1⟩
theorem goodIn_app {big a b : List Cond} (ha : GoodIn big a) (hb : GoodIn big b) : GoodIn big (a ++ b) := fun w h => (List.mem_append.mp h).elim (ha w) (hb w)
theorem goodIn_ca {big a b : List Cond} {c : Cond} (ha : GoodIn big (c :: a)) (hb : GoodIn big b) : GoodIn big (c :: (a ++ b)) := fun w h => (List.mem_cons.mp h).elim (fun e => ha w (List.mem_cons.mpr (Or.inl e))) (fun h => (List.mem_append.mp h).elim (fun h => ha w (List.mem_cons.mpr (Or.inr h))) (hb w))
theorem goodIn_sub {big ws : List Cond} (hm : ∀ w ∈ ws, w ∈ big) (h : ws.all goodWord = true) : GoodIn big ws := fun w hw => ⟨hm w hw, good_of_word (List.all_eq_true.mp h w hw)⟩
/-! ===== END ===== -/

/-! ===== BEGIN exceptions that leave a method, and their catching by the caller (launches without stack traces) ===== -/
section VXA
/-! The laws vx_back, vx_callV, vx_callS, vx_callSW, vx_throw0, vx_throwS follow proofs of the library, with one case more: JvmDerived/Free/Laws.lean (Back.of_free), Shelf42/LK1.lean (callV, callS), Shelf/KitTraced.lean (throwNew0V, throwNewS). -/
/-- where a method has thrown q: the class by its name, the cell, what was written, the world -/
def vx_T (XC : String → State → State → Prop) (st : State) (q : Addr) (t : State) (mc ms : Nat) (free : Addr → Prop) : Prop :=
  ∃ (E : String) (ce : Cell) (L : List Loc), XC E st t ∧ t.heap[q]? = some ce ∧ ce.vm = .none ∧ st.vm.findClass E = some ce.cls ∧ st.WarmedH t.vm ∧ st.sameButNew ({ t with vm := st.vm } : State) L mc ms ∧ ∀ z ∈ L, free z.base
def vx_Q (Qc : Array Value → State → Outcome → State → Prop) (XC : String → State → State → Prop) (mc ms : Nat) (free : Addr → Prop) : Array Value → State → Outcome → State → Prop := fun a st o t =>
  (Qc a st o t ∧ ∃ L, FrameEnd st o t L mc ms ∧ ∀ q ∈ L, free q.base) ∨ ∃ q, o = .threw q ∧ vx_T XC st q t mc ms free
/-- a callee that returns or throws -/
def vx_Met (l : Launch) (y : MethodName) (ws : List Cond) (rm : Room) (Pc : Array Value → State → Prop) (Qc : Array Value → State → Outcome → State → Prop) (XC : String → State → State → Prop) (mc ms : Nat) (free : Addr → Prop) : Prop :=
  MetFree l y (headSpec ws rm) Pc (fun _ _ _ _ _ => True) (vx_Q Qc XC mc ms free)
def vx_Post (XC : String → State → State → Prop) (mc ms : Nat) (free : Addr → Prop) : Pt → Array Value → Addr → Pt → Prop := fun A a q B =>
  ∃ (g : JFrame) (mk : MethodId) (t : State) (L : List Loc) (E : String) (ce : Cell), B.U.heap = t.heap ∧ B.U.vm = t.vm ∧ XC E (A.U.calling g mk a) t ∧ t.heap[q]? = some ce ∧ ce.vm = .none ∧ A.U.vm.findClass E = some ce.cls ∧ B.locs = A.locs ++ L ∧ (∀ z ∈ L, free z.base) ∧ B.cells = A.cells + mc ∧ B.slots = A.slots + ms
def vx_Back (l : Launch) (R : Room) (p : Program) (e : Env) (below : List Frame) (s : State) (sargs : Array Value) (y : MethodName) (len W9 : Nat)
    (Pre : Pt → Array Value → Prop) (Post : Pt → Array Value → Option Value → Pt → Prop) (PostX : Pt → Array Value → Addr → Pt → Prop) : Prop :=
  ∀ (m : MethodId) (meth : Method) (c : Code) (A : Pt) (g : JFrame) (ig : Instr) (mk : MethodId) (a : Array Value),
    Stand p l e R s m sargs below meth c A.U A.locs A.cells A.slots → g.method = m → g.locals.size = c.maxLocals → decode c.code g.pc = .ok (ig, len) →
    2 * g.monitorRoom + (g.stack.map fun v => v.category).sum ≤ W9 → A.U.methodNamed? y = some mk → Pre A a →
    (∃ (v : Option Value) (B : Pt), Stand p l e R s m sargs below meth c B.U B.locs B.cells B.slots ∧ Post A a v B ∧
      Steps p.tables e below (doInvoke e (A.U.setTop g) [] mk a).1 (B.U.setTop { g with pc := g.pc + len, stack := v.toList ++ g.stack })) ∨
    (∃ (q : Addr) (B : Pt), Stand p l e R s m sargs below meth c B.U B.locs B.cells B.slots ∧ PostX A a q B ∧
      Steps p.tables e below (doInvoke e (A.U.setTop g) [] mk a).1 ((B.U.setTop g).pushFrame (.throwing q)))
section Payer
variable {l : Launch} {R : Room} {p : Program} {e : Env} {below : List Frame} {s : State} {sargs : Array Value} {y : MethodName} {len W9 : Nat}
theorem vx_back {ws : List Cond} {rm : Room} {Pc : Array Value → State → Prop} {Qc : Array Value → State → Outcome → State → Prop} {XC : String → State → State → Prop} {mc ms : Nat} {free : Addr → Prop} {bytes : ByteArray} {maxL : Nat} {ret : Option FieldType}
    (hM : vx_Met l y ws rm Pc Qc XC mc ms free) (hblind : FrameBlind Pc) (hrc : rm.cells = mc) (hrs : rm.slots = ms)
    (hframes : rm.frames + 1 ≤ R.frames) (hlocals : W9 + (maxL + 11) + rm.locals ≤ R.locals)
    (hws : ∀ w ∈ ws, ∀ a' U, s.WarmedH U.vm → w.before a' U = true) (hcode : Cond.code y bytes maxL ret ∈ ws) (hinit : ∀ a' U, s.WarmedH U.vm → (Cond.initialized y.cls).before a' U = true) :
    vx_Back l R p e below s sargs y len W9 (PreOf R mc ms Pc) (PostOf Qc mc ms free) (vx_Post XC mc ms free) := by
  intro m meth c A g ig mk a X hg hsize hdg hW hn hp
  have h1 : (headSpec ws rm).pre.before a A.U = true := atoms_intro fun w hw => hws w hw _ _ X.warmed
  have h2 : (Cond.code y bytes maxL ret).before a A.U = true := hws _ hcode _ _ X.warmed
  have h3 : (Cond.initialized y.cls).before a A.U = true := hinit _ _ X.warmed
  have h4 : A.cells + (headSpec ws rm).room.cells ≤ R.cells := by rw [show (headSpec ws rm).room.cells = mc from hrc]; exact hp.1
  have h5 : A.slots + (headSpec ws rm).room.slots ≤ R.slots := by rw [show (headSpec ws rm).room.slots = ms from hrs]; exact hp.2.1
  have hPc : Pc a (A.U.calling g mk a) := hblind _ _ _ _ hp.2.2
  obtain ⟨U, Ls, c0, s0⟩ := A
  dsimp only [Pt.U, Pt.locs, Pt.cells, Pt.slots] at h1 h2 h3 h4 h5 X hn hPc ⊢
  obtain ⟨methY, cY, hmY, hcY, -, hlY, -, -, -, -⟩ := Cond.code_spec hn h2
  obtain ⟨kY, hkY, -⟩ := className_of_methodNamed hn
  have hinitY : kY.init = .initialized := Cond.initialized_spec (findClass_of_methodNamed hn) hkY h3
  have h : At U g.method c below := by rw [hg]; exact X.here
  have hlocals9 : W9 + (maxL + 11) + (headSpec ws rm).room.locals ≤ R.locals := hlocals
  have happ : (headSpec ws rm).appliesLoose y e.platform (U.calling g mk a) = true :=
    Spec.appliesLoose_calling (g := g) h hdg hn hkY hinitY
      (X.room_calling (g := g) (R' := (headSpec ws rm).room) hsize hmY hcY hframes (by rw [hlY]; omega) h4 h5) h1
  obtain ⟨mid, hmid⟩ := h.above
  have hfr : (U.setTop g).frames = (.java g :: mid) ++ below := by rw [State.frames_setTop' g h.top, hmid]; rfl
  obtain ⟨o, s₂, hsteps, -, hend, hq⟩ := Steps.callFree hM p X.admits X.cas X.clock (acts := []) hfr happ hPc trivial
  have hq' : vx_Q Qc XC mc ms free a (U.calling g mk a) o s₂ := hq
  rw [State.frames_setTop' g h.top] at hend
  obtain ⟨g₀, hg0⟩ := Option.isSome_iff_exists.mp h.top
  obtain ⟨r, hr⟩ := State.topJava?_eq_some.mp hg0
  have hr' : (({ U with heap := s₂.heap, slotsUsed := s₂.slotsUsed } : State).setVm s₂.vm).frames = .java g₀ :: r := hr
  rcases hq' with ⟨hqc, L, hfe, hL⟩ | ⟨q, rfl, E, ce, L, hx, hce, hcv, hcl, hW₂, hsm, hL⟩
  · obtain ⟨⟨v, rfl⟩, hW₂, e2, q2, q3, q4, q5, q6⟩ := id hfe
    have e3 : s₂ = ({ (U.calling g mk a).setFrames s₂.frames with heap := s₂.heap, slotsUsed := s₂.slotsUsed } : State).setVm s₂.vm := by
      have : s₂ = ({ s₂ with vm := (U.calling g mk a).vm } : State).setVm s₂.vm := rfl
      rw [e2] at this
      exact this
    obtain ⟨c₂, i₂, len₂, hc₂, hd₂, hf₂⟩ := hend
    have hW' : U.WarmedH s₂.vm := hW₂
    have hcc : c₂ = c := by
      have h1 : s₂.code? g.method = U.code? g.method := by
        rw [State.code?_eq, State.code?_eq, hW'.alike.method?]
      exact Option.some.inj (hc₂.symm.trans (h1.trans h.code))
    subst hcc
    have hlen : len₂ = len := by rw [hdg] at hd₂; cases hd₂; rfl
    subst hlen
    have hs₂ : s₂ = (({ U with heap := s₂.heap, slotsUsed := s₂.slotsUsed } : State).setVm s₂.vm).setTop { g with pc := g.pc + len₂, stack := v.toList ++ g.stack } := by
      refine e3.trans ?_
      rw [hf₂, State.calling_eq h.top, State.setFrames_setFrames, State.setTop_of_frames _ hr', hr]
      rfl
    have hsame : U.sameButNew ({ U with heap := s₂.heap, slotsUsed := s₂.slotsUsed } : State) L mc ms := by
      refine ⟨?_, q2, q3, q4, q5, q6⟩
      obtain ⟨t, ht, -⟩ := State.frames_cons hr
      show ({ U with heap := s₂.heap, slotsUsed := s₂.slotsUsed } : State) = { U.setFrames U.frames with heap := s₂.heap, slotsUsed := s₂.slotsUsed }
      rw [State.setFrames_self ht]
    subst hg
    refine Or.inl ⟨v, ⟨(({ U with heap := s₂.heap, slotsUsed := s₂.slotsUsed } : State).setVm s₂.vm), Ls ++ L, c0 + mc, s0 + ms⟩,
      ⟨X.admits, X.cas, X.clock, X.frames, X.room, X.hears, X.method, X.code, (X.here.setHeapUsed s₂.heap s₂.slotsUsed).setVm hW'.alike, X.tail, State.WarmedH.trans X.warmed hW', X.limits, X.bytes, X.same.trans (hsame.setVm s.vm)⟩,
      ⟨g, mk, s₂, L, rfl, rfl, hqc, rfl, hL, rfl, rfl⟩, ?_⟩
    show Steps p.tables e below _ ((({ U with heap := s₂.heap, slotsUsed := s₂.slotsUsed } : State).setVm s₂.vm).setTop { g with pc := g.pc + len₂, stack := v.toList ++ g.stack })
    rw [← hs₂]
    exact hsteps
  · obtain ⟨e2, q2, q3, q4, q5, q6⟩ := id hsm
    have e3 : s₂ = ({ (U.calling g mk a).setFrames s₂.frames with heap := s₂.heap, slotsUsed := s₂.slotsUsed } : State).setVm s₂.vm := by
      have : s₂ = ({ s₂ with vm := (U.calling g mk a).vm } : State).setVm s₂.vm := rfl
      rw [e2] at this
      exact this
    have hf₂ : s₂.frames = .throwing q :: .java g :: U.frames.tail := hend
    have hW' : U.WarmedH s₂.vm := hW₂
    have hs₂ : s₂ = ((({ U with heap := s₂.heap, slotsUsed := s₂.slotsUsed } : State).setVm s₂.vm).setTop g).pushFrame (.throwing q) := by
      refine e3.trans ?_
      rw [hf₂, State.calling_eq h.top, State.setFrames_setFrames, State.pushFrame, State.frames_setTop _ hr', State.setTop_of_frames _ hr', State.setFrames_setFrames, hr]
      rfl
    have hsame : U.sameButNew ({ U with heap := s₂.heap, slotsUsed := s₂.slotsUsed } : State) L mc ms := by
      refine ⟨?_, q2, q3, q4, q5, q6⟩
      obtain ⟨t, ht, -⟩ := State.frames_cons hr
      show ({ U with heap := s₂.heap, slotsUsed := s₂.slotsUsed } : State) = { U.setFrames U.frames with heap := s₂.heap, slotsUsed := s₂.slotsUsed }
      rw [State.setFrames_self ht]
    subst hg
    refine Or.inr ⟨q, ⟨(({ U with heap := s₂.heap, slotsUsed := s₂.slotsUsed } : State).setVm s₂.vm), Ls ++ L, c0 + mc, s0 + ms⟩,
      ⟨X.admits, X.cas, X.clock, X.frames, X.room, X.hears, X.method, X.code, (X.here.setHeapUsed s₂.heap s₂.slotsUsed).setVm hW'.alike, X.tail, State.WarmedH.trans X.warmed hW', X.limits, X.bytes, X.same.trans (hsame.setVm s.vm)⟩,
      ⟨g, mk, s₂, L, E, ce, rfl, rfl, hx, hce, hcv, hcl, rfl, hL, rfl, rfl⟩, ?_⟩
    show Steps p.tables e below _ (((({ U with heap := s₂.heap, slotsUsed := s₂.slotsUsed } : State).setVm s₂.vm).setTop g).pushFrame (.throwing q))
    rw [← hs₂]
    exact hsteps
end Payer
section Calls
variable {p : Program} {l : Launch} {e : Env} {R : Room} {s : State} {m : MethodId} {args : Array Value} {below : List Frame} {meth : Method} {c : Code} {T : State} {locs : List Loc} {cells slots : Nat}
theorem vx_callV (X : Stand p l e R s m args below meth c T locs cells slots) (hexec : p.tables.exec = Jvm.exec) {own C : String} {index : Nat} {y : MethodName} {bytes : ByteArray} {maxL : Nat} {ret : Option FieldType}
    (hown : s.vm.findClass own = some m.cls) (hlink : (Cond.methodLink own index y).before args s = true) (hinst : (Cond.instanceMethod y).before args s = true) (hsel : (Cond.selects C y y).before args s = true)
    (hcode : (Cond.code y bytes maxL ret).before args s = true) (hy : y.cls ≠ "java/lang/invoke/MethodHandle" ∧ y.cls ≠ "java/lang/invoke/VarHandle")
    {W9 : Nat} {Pre : Pt → Array Value → Prop} {Post : Pt → Array Value → Option Value → Pt → Prop} {PostX : Pt → Array Value → Addr → Pt → Prop} (hK : vx_Back l R p e below s args y 3 W9 Pre Post PostX)
    {b : Addr} {cellB : Cell} (hcell : T.heap[b]? = some cellB) (hobj : cellB.vm.isStatics = false) (hcls : s.vm.findClass C = some cellB.cls)
    {g : JFrame} (hg : g.method = m) (hsize : g.locals.size = c.maxLocals) {argsL rest : List Value} (hlen : ∀ sig, parseMethodDescriptor y.desc = some sig → argsL.length = sig.parameters.length)
    (hstack : g.stack = argsL.reverse ++ .ref b :: rest) (hW : 2 * g.monitorRoom + (rest.map fun v => v.category).sum ≤ W9) (hdg : decode c.code g.pc = .ok (.invokevirtual index, 3))
    (hpre : ∀ vm₁, s.WarmedH vm₁ → Pre ⟨T.setVm vm₁, locs, cells, slots⟩ (Value.ref b :: argsL).toArray) :
    (∃ (v : Option Value) (vm₁ : Vm) (B : Pt), s.WarmedH vm₁ ∧ Stand p l e R s m args below meth c B.U B.locs B.cells B.slots ∧ Post ⟨T.setVm vm₁, locs, cells, slots⟩ (Value.ref b :: argsL).toArray v B ∧
      ∀ target, Steps p.tables e below (B.U.setTop { g with pc := g.pc + 3, stack := v.toList ++ rest }) target → Steps p.tables e below (T.setTop g) target) ∨
    (∃ (q : Addr) (vm₁ : Vm) (B : Pt), s.WarmedH vm₁ ∧ Stand p l e R s m args below meth c B.U B.locs B.cells B.slots ∧ PostX ⟨T.setVm vm₁, locs, cells, slots⟩ (Value.ref b :: argsL).toArray q B ∧
      Steps p.tables e below (T.setTop g) ((B.U.setTop { g with stack := rest }).pushFrame (.throwing q))) := by
  obtain ⟨mk, methM, hnamed, hmethM, hstM, habM⟩ := Cond.instanceMethod_spec hinst
  obtain ⟨methM', cM, hmethM', -, -, -, -, -, -, hsigM⟩ := Cond.code_spec hnamed hcode
  cases hmethM.symm.trans hmethM'
  obtain ⟨c2, r2, m2, q1, q2, q3, q4, kP, hkP, hkPi⟩ := Cond.selects_spec hsel
  cases hcls.symm.trans q1
  cases (State.methodFound?_of_named hnamed hy).symm.trans q2
  cases hnamed.symm.trans q3
  have hselP : selectMethod e.platform s.vm cellB.cls mk = .method mk := by rw [Launch.admits_selectMethod X.admits]; exact q4
  obtain ⟨vm₁, X₁, hstep₁⟩ := X.invokevirtual hexec hown hlink hnamed hmethM hstM hkP hkPi hy (a := b) (cell := cellB) hcell
    (fun z h => by rw [h] at hobj; cases hobj) hselP hmethM habM hkP hkPi (g := g) hg (argsL := argsL) (rest := rest) (hlen _ hsigM) hstack hdg
  rcases hK m meth c ⟨T.setVm vm₁, locs, cells, slots⟩ { g with stack := rest } (.invokevirtual index) mk (Value.ref b :: argsL).toArray X₁ hg hsize hdg hW (X₁.named hnamed) (hpre vm₁ X₁.warmed) with ⟨v, B, X', hpost, hsteps⟩ | ⟨q, B, X', hpost, hsteps⟩
  · exact Or.inl ⟨v, vm₁, B, X₁.warmed, X', hpost, fun target h => hstep₁ _ fun acts => by rw [doInvoke_state]; exact hsteps.trans h⟩
  · exact Or.inr ⟨q, vm₁, B, X₁.warmed, X', hpost, hstep₁ _ fun acts => by rw [doInvoke_state]; exact hsteps⟩
theorem vx_callS (X : Stand p l e R s m args below meth c T locs cells slots) (hexec : p.tables.exec = Jvm.exec) {own : String} {index : Nat} {y : MethodName} {bytes : ByteArray} {maxL : Nat} {ret : Option FieldType}
    (hown : s.vm.findClass own = some m.cls) (hlink : (Cond.methodLink own index y).before args s = true) (hstat : (Cond.static y).before args s = true) (hinit : (Cond.initialized y.cls).before args s = true)
    (hcode : (Cond.code y bytes maxL ret).before args s = true) (hy : y.cls ≠ "java/lang/invoke/MethodHandle" ∧ y.cls ≠ "java/lang/invoke/VarHandle")
    {W9 : Nat} {Pre : Pt → Array Value → Prop} {Post : Pt → Array Value → Option Value → Pt → Prop} {PostX : Pt → Array Value → Addr → Pt → Prop} (hK : vx_Back l R p e below s args y 3 W9 Pre Post PostX)
    {g : JFrame} (hg : g.method = m) (hsize : g.locals.size = c.maxLocals) {argsL rest : List Value} (hlen : ∀ sig, parseMethodDescriptor y.desc = some sig → argsL.length = sig.parameters.length)
    (hstack : g.stack = argsL.reverse ++ rest) (hW : 2 * g.monitorRoom + (rest.map fun v => v.category).sum ≤ W9) (hdg : decode c.code g.pc = .ok (.invokestatic index, 3))
    (hpre : ∀ vm₁, s.WarmedH vm₁ → Pre ⟨T.setVm vm₁, locs, cells, slots⟩ argsL.toArray) :
    (∃ (v : Option Value) (vm₁ : Vm) (B : Pt), s.WarmedH vm₁ ∧ Stand p l e R s m args below meth c B.U B.locs B.cells B.slots ∧ Post ⟨T.setVm vm₁, locs, cells, slots⟩ argsL.toArray v B ∧
      ∀ target, Steps p.tables e below (B.U.setTop { g with pc := g.pc + 3, stack := v.toList ++ rest }) target → Steps p.tables e below (T.setTop g) target) ∨
    (∃ (q : Addr) (vm₁ : Vm) (B : Pt), s.WarmedH vm₁ ∧ Stand p l e R s m args below meth c B.U B.locs B.cells B.slots ∧ PostX ⟨T.setVm vm₁, locs, cells, slots⟩ argsL.toArray q B ∧
      Steps p.tables e below (T.setTop g) ((B.U.setTop { g with stack := rest }).pushFrame (.throwing q))) := by
  obtain ⟨mk, hnamed⟩ := Cond.code_named hcode
  obtain ⟨methM, cM, hmethM, -, -, -, -, -, -, hsigM⟩ := Cond.code_spec hnamed hcode
  have hstatic : methM.isStatic = true := Cond.static_spec hnamed hmethM hstat
  obtain ⟨kP, hkP, -⟩ := className_of_methodNamed hnamed
  have hinitP : kP.init = .initialized := Cond.initialized_spec (findClass_of_methodNamed hnamed) hkP hinit
  obtain ⟨vm₁, X₁, hstep₁⟩ := X.invokestatic hexec hown hlink hnamed hmethM hstatic hkP hinitP hy (g := g) hg (argsL := argsL) (rest := rest) (hlen _ hsigM) hstack hdg
  rcases hK m meth c ⟨T.setVm vm₁, locs, cells, slots⟩ { g with stack := rest } (.invokestatic index) mk argsL.toArray X₁ hg hsize hdg hW (X₁.named hnamed) (hpre vm₁ X₁.warmed) with ⟨v, B, X', hpost, hsteps⟩ | ⟨q, B, X', hpost, hsteps⟩
  · exact Or.inl ⟨v, vm₁, B, X₁.warmed, X', hpost, fun target h => hstep₁ _ fun acts => by rw [doInvoke_state]; exact hsteps.trans h⟩
  · exact Or.inr ⟨q, vm₁, B, X₁.warmed, X', hpost, hstep₁ _ fun acts => by rw [doInvoke_state]; exact hsteps⟩
end Calls
theorem vx_cls {s : State} {T : State} {vm₁ : Vm} {E : String} {k : ClassId} (hW : s.WarmedH vm₁) (h : (T.setVm vm₁).vm.findClass E = some k) : s.vm.findClass E = some k := by
  have h1 : vm₁.findClass E = some k := h
  rw [hW.alike.findClass] at h1
  exact h1
/-- the method's frame g, with q thrown over it -/
def vx_W (p : Program) (l : Launch) (e : Env) (R : Room) (s : State) (m : MethodId) (args : Array Value) (below : List Frame) (meth : Method) (c : Code) (H : Heap) (locs : List Loc) (cells slots : Nat) (Q : State → Prop) (g : JFrame) (q : Addr) : Prop :=
  ∀ T : State, T.heap = H → Stand p l e R s m args below meth c T locs cells slots → ∃ t, Steps p.tables e below ((T.setTop g).pushFrame (.throwing q)) t ∧ Q t
def vx_Run (p : Program) (l : Launch) (e : Env) (R : Room) (s : State) (m : MethodId) (args : Array Value) (below : List Frame) (meth : Method) (c : Code) (H : Heap) (locs : List Loc) (cells slots mc ms : Nat) (g : JFrame) (rest : List Value) (Qa : State → Outcome → State → Prop) (XC : String → State → State → Prop) (free : Addr → Prop) : Prop :=
  ∀ T : State, T.heap = H → Stand p l e R s m args below meth c T locs cells slots →
    (∃ (v : Option Value) (st₀ t T' : State) (L : List Loc), st₀.heap = H ∧ Stand p l e R s m args below meth c T' (locs ++ L) (cells + mc) (slots + ms) ∧ (∀ q ∈ L, free q.base) ∧ T'.heap = t.heap ∧ T'.vm = t.vm ∧ Qa st₀ (.returned v) t ∧
      Goes p e below T g T' { g with pc := g.pc + 3, stack := v.toList ++ rest }) ∨
    (∃ (q : Addr) (st₀ t T' : State) (L : List Loc) (E : String) (ce : Cell), st₀.heap = H ∧ Stand p l e R s m args below meth c T' (locs ++ L) (cells + mc) (slots + ms) ∧ (∀ z ∈ L, free z.base) ∧ T'.heap = t.heap ∧ T'.vm = t.vm ∧ XC E st₀ t ∧ t.heap[q]? = some ce ∧ ce.vm = .none ∧ s.vm.findClass E = some ce.cls ∧
      Steps p.tables e below (T.setTop g) ((T'.setTop { g with stack := rest }).pushFrame (.throwing q)))
def vx_X {S : Type} (px : S → Prop) (B : String → S → State → Prop) (A : Nat → Prop) : String → State → State → Prop := fun E st t => ∃ u : S, px u ∧ B E u t ∧ va_F A st t
section Runs
variable {p : Program} {l : Launch} {e : Env} {R : Room} {s : State} {m : MethodId} {args : Array Value} {below : List Frame} {meth : Method} {c : Code} {H : Heap} {locs : List Loc} {cells slots : Nat}
variable {y : MethodName} {bytes cc : ByteArray} {maxL nL mc ms n index : Nat} {ret : Option FieldType} {ws : List Cond} {rm : Room} {Pc : Array Value → State → Prop} {Qc : Array Value → State → Outcome → State → Prop} {XC : String → State → State → Prop} {free : Addr → Prop} {Ts : List Cond} {own C : String} {b : Addr} {As rest : List Value} {g : JFrame}
theorem vx_callBack (cb : CallB R s args own index y bytes maxL ret ws rm mc ms n) (hM : vx_Met l y ws rm Pc Qc XC mc ms free) (hbl : FrameBlind Pc) : vx_Back l R p e below s args y 3 8 (PreOf R mc ms Pc) (PostOf Qc mc ms free) (vx_Post XC mc ms free) := by
  obtain ⟨hrc, hrs, hfr, hlo, hws, hcw, -, hini, -⟩ := cb
  exact vx_back (bytes := bytes) (maxL := maxL) (ret := ret) hM hbl hrc hrs hfr hlo hws hcw (fun a' U hW => word_at hW (Or.inl (by first | rfl | simp [Cond.onTables, Cond.keeps, Cond.steady])) hini)
theorem vx_runV (S : CallFix p m c cc nL s args Ts own) (hM : vx_Met l y ws rm Pc Qc XC mc ms free) (cw : CallW R s args own C index y bytes maxL ret ws rm mc ms n) (hp : PreV s H C b Pc As)
    (hg : g.method = m) (hn : As.length = n) (hsize : g.locals.size = nL) (hstack : g.stack = As.reverse ++ .ref b :: rest) (hW : 2 * g.monitorRoom + (rest.map fun v => v.category).sum ≤ 8) (hdg : decode cc g.pc = .ok (.invokevirtual index, 3)) (hf : cells + mc ≤ R.cells ∧ slots + ms ≤ R.slots) :
    vx_Run p l e R s m args below meth c H locs cells slots mc ms g rest (Qc (Value.ref b :: As).toArray) XC free := by
  have hK : vx_Back l R p e below s args y 3 8 (PreOf R mc ms Pc) (PostOf Qc mc ms free) (vx_Post XC mc ms free) := vx_callBack cw.1 hM hp.1
  obtain ⟨⟨-, -, -, -, -, -, hcode, -, hy, hlen, hl⟩, hin, hse⟩ := cw
  obtain ⟨hx, hb, hml, ho, -⟩ := S
  obtain ⟨-, ⟨cellB, hcB, hoB, hclB⟩, hPc⟩ := hp
  intro T hT X
  rcases vx_callV X hx (C := C) (bytes := bytes) (maxL := maxL) (ret := ret) ho hl hin hse hcode hy hK (by rw [hT]; exact hcB) hoB hclB hg (hsize.trans hml.symm) (argsL := As) (rest := rest) (fun sig h => hn.trans (hlen sig h)) hstack hW (by rw [hb]; exact hdg)
    (fun vm₁ hW₁ => ⟨hf.1, hf.2, hPc (T.setVm vm₁) hT hW₁⟩) with ⟨v, vm₁, ⟨U', l2, c2, s2⟩, hW₁, X', ⟨g', mk, t, L, e1, e2, hq, h1, hL, h2, h3⟩, st⟩ | ⟨q, vm₁, ⟨U', l2, c2, s2⟩, hW₁, X', ⟨g', mk, t, L, E, ce, e1, e2, hq, hce, hcv, hcl, h1, hL, h2, h3⟩, st⟩
  · dsimp only [Pt.U, Pt.locs, Pt.cells, Pt.slots] at X' e1 e2 h1 h2 h3 st
    subst h1; subst h2; subst h3
    exact Or.inl ⟨v, (T.setVm vm₁).calling g' mk (Value.ref b :: As).toArray, t, U', L, hT, X', hL, e1, e2, hq, st⟩
  · dsimp only [Pt.U, Pt.locs, Pt.cells, Pt.slots] at X' e1 e2 h1 h2 h3 st hcl
    subst h1; subst h2; subst h3
    exact Or.inr ⟨q, (T.setVm vm₁).calling g' mk (Value.ref b :: As).toArray, t, U', L, E, ce, hT, X', hL, e1, e2, hq, hce, hcv, vx_cls hW₁ hcl, st⟩
theorem vx_runS (S : CallFix p m c cc nL s args Ts own) (hM : vx_Met l y ws rm Pc Qc XC mc ms free) (cw : CallB R s args own index y bytes maxL ret ws rm mc ms n ∧ (Cond.static y).before args s = true) (hp : PreS s H Pc As)
    (hg : g.method = m) (hn : As.length = n) (hsize : g.locals.size = nL) (hstack : g.stack = As.reverse ++ rest) (hW : 2 * g.monitorRoom + (rest.map fun v => v.category).sum ≤ 8) (hdg : decode cc g.pc = .ok (.invokestatic index, 3)) (hf : cells + mc ≤ R.cells ∧ slots + ms ≤ R.slots) :
    vx_Run p l e R s m args below meth c H locs cells slots mc ms g rest (Qc As.toArray) XC free := by
  have hK : vx_Back l R p e below s args y 3 8 (PreOf R mc ms Pc) (PostOf Qc mc ms free) (vx_Post XC mc ms free) := vx_callBack cw.1 hM hp.1
  obtain ⟨⟨-, -, -, -, -, -, hcode, hini, hy, hlen, hl⟩, hstt⟩ := cw
  obtain ⟨hx, hb, hml, ho, -⟩ := S
  intro T hT X
  rcases vx_callS X hx (bytes := bytes) (maxL := maxL) (ret := ret) ho hl hstt hini hcode hy hK hg (hsize.trans hml.symm) (argsL := As) (rest := rest) (fun sig h => hn.trans (hlen sig h)) hstack hW (by rw [hb]; exact hdg)
    (fun vm₁ hW₁ => ⟨hf.1, hf.2, hp.2 (T.setVm vm₁) hT hW₁⟩) with ⟨v, vm₁, ⟨U', l2, c2, s2⟩, hW₁, X', ⟨g', mk, t, L, e1, e2, hq, h1, hL, h2, h3⟩, st⟩ | ⟨q, vm₁, ⟨U', l2, c2, s2⟩, hW₁, X', ⟨g', mk, t, L, E, ce, e1, e2, hq, hce, hcv, hcl, h1, hL, h2, h3⟩, st⟩
  · dsimp only [Pt.U, Pt.locs, Pt.cells, Pt.slots] at X' e1 e2 h1 h2 h3 st
    subst h1; subst h2; subst h3
    exact Or.inl ⟨v, (T.setVm vm₁).calling g' mk As.toArray, t, U', L, hT, X', hL, e1, e2, hq, st⟩
  · dsimp only [Pt.U, Pt.locs, Pt.cells, Pt.slots] at X' e1 e2 h1 h2 h3 st hcl
    subst h1; subst h2; subst h3
    exact Or.inr ⟨q, (T.setVm vm₁).calling g' mk As.toArray, t, U', L, E, ce, hT, X', hL, e1, e2, hq, hce, hcv, vx_cls hW₁ hcl, st⟩
end Runs
section Rows
variable {p : Program} {l : Launch} {e : Env} {R : Room} {s : State} {m : MethodId} {args : Array Value} {below : List Frame} {meth : Method} {c : Code} {H : Heap} {locs : List Loc} {cells slots : Nat} {Q : State → Prop}
variable {mc ms : Nat} {free : Addr → Prop} {A0 A1 : Nat → Prop} {H0 : Heap} {a : Array Value} {pc : Nat} {ls : Array Slot} {st0 rest : List Value}
theorem vx_keep {st₀ t T' : State} {L : List Loc} (h0 : st₀.heap = H) (e1 : T'.heap = t.heap) (hS : va_S A0 H0 H locs) (hA : ∀ q, q < H.size → A1 q → A0 q) (hf : ∀ q, free q → A0 q) (hL : ∀ q ∈ L, free q.base) (hF : va_F A1 st₀ t) :
    H.size ≤ T'.heap.size ∧ (∀ q : Nat, q < H.size → ¬ A1 q → T'.heap[q]? = H[q]?) ∧ va_S A0 H0 T'.heap (locs ++ L) := by
  obtain ⟨hz, hk⟩ := hF
  rw [h0] at hz hk
  exact ⟨by rw [e1]; exact hz, fun q h1 h2 => by rw [e1]; exact hk q h1 h2,
    ⟨Nat.le_trans hS.1 (by rw [e1]; exact hz), fun q h1 h2 => by rw [e1, hk q (Nat.lt_of_lt_of_le h1 hS.1) (fun z => h2 (hA q (Nat.lt_of_lt_of_le h1 hS.1) z))]; exact hS.2.1 q h1 h2, fun q hq => by
      rcases List.mem_append.mp hq with h | h
      · exact hS.2.2 q h
      · exact hf _ (hL q h)⟩⟩
theorem vx_calli {S SX : Type} {post : Int32 → S → Prop} {px : SX → Prop} {B : S → State → Prop} {BX : String → SX → State → Prop} {AX : Nat → Prop} (hr : vx_Run p l e R s m args below meth c H locs cells slots mc ms (F0 m pc ls st0) rest (va_Qi post B A1 a) (vx_X px BX AX) free) (hS : va_S A0 H0 H locs) (hA : ∀ q, q < H.size → A1 q → A0 q) (hf : ∀ q, free q → A0 q) (hAX : ∀ q, q < H.size → AX q → A0 q)
    (kx : ∀ (E : String) (ce : Cell) (q9 : Addr) (u : SX) (t : State) (H1 : Heap) (locs1 : List Loc), t.heap = H1 → s.vm.Alike t.vm → px u → BX E u t → H.size ≤ H1.size → (∀ q : Nat, q < H.size → ¬ AX q → H1[q]? = H[q]?) → va_S A0 H0 H1 locs1 → H1[q9]? = some ce → ce.vm = .none → s.vm.findClass E = some ce.cls → vx_W p l e R s m args below meth c H1 locs1 (cells + mc) (slots + ms) Q (F0 m pc ls rest) q9)
    (kk : ∀ (r : Int32) (u : S) (t : State) (H1 : Heap) (locs1 : List Loc), t.heap = H1 → s.vm.Alike t.vm → post r u → B u t → H.size ≤ H1.size → (∀ q : Nat, q < H.size → ¬ A1 q → H1[q]? = H[q]?) → va_S A0 H0 H1 locs1 → W p l e R s m args below meth c H1 locs1 (cells + mc) (slots + ms) Q (F0 m (pc + 3) ls (.int r :: rest))) : W p l e R s m args below meth c H locs cells slots Q (F0 m pc ls st0) := by
  intro T hT X
  rcases hr T hT X with ⟨v, st₀, t, T', L, h0, X', hL, e1, e2, ⟨⟨r, u, hv, hp, hb⟩, hF⟩, st⟩ | ⟨q, st₀, t, T', L, E, ce, h0, X', hL, e1, e2, ⟨u, hp, hb, hF⟩, hce, hcv, hcl, st⟩
  · cases hv
    obtain ⟨k1, k2, k3⟩ := vx_keep h0 e1 hS hA hf hL hF
    obtain ⟨t2, a1, b1⟩ := kk r u t T'.heap (locs ++ L) e1.symm (by rw [← e2]; exact X'.warmed.alike) hp hb k1 k2 k3 T' rfl X'
    exact ⟨t2, st t2 a1, b1⟩
  · obtain ⟨k1, k2, k3⟩ := vx_keep h0 e1 hS hAX hf hL hF
    obtain ⟨t2, a1, b1⟩ := kx E ce q u t T'.heap (locs ++ L) e1.symm (by rw [← e2]; exact X'.warmed.alike) hp hb k1 k2 k3 (by rw [e1]; exact hce) hcv hcl T' rfl X'
    exact ⟨t2, st.trans a1, b1⟩
theorem vx_calll {S SX : Type} {post : Int64 → S → Prop} {px : SX → Prop} {B : S → State → Prop} {BX : String → SX → State → Prop} {AX : Nat → Prop} (hr : vx_Run p l e R s m args below meth c H locs cells slots mc ms (F0 m pc ls st0) rest (va_Ql post B A1 a) (vx_X px BX AX) free) (hS : va_S A0 H0 H locs) (hA : ∀ q, q < H.size → A1 q → A0 q) (hf : ∀ q, free q → A0 q) (hAX : ∀ q, q < H.size → AX q → A0 q)
    (kx : ∀ (E : String) (ce : Cell) (q9 : Addr) (u : SX) (t : State) (H1 : Heap) (locs1 : List Loc), t.heap = H1 → s.vm.Alike t.vm → px u → BX E u t → H.size ≤ H1.size → (∀ q : Nat, q < H.size → ¬ AX q → H1[q]? = H[q]?) → va_S A0 H0 H1 locs1 → H1[q9]? = some ce → ce.vm = .none → s.vm.findClass E = some ce.cls → vx_W p l e R s m args below meth c H1 locs1 (cells + mc) (slots + ms) Q (F0 m pc ls rest) q9)
    (kk : ∀ (r : Int64) (u : S) (t : State) (H1 : Heap) (locs1 : List Loc), t.heap = H1 → s.vm.Alike t.vm → post r u → B u t → H.size ≤ H1.size → (∀ q : Nat, q < H.size → ¬ A1 q → H1[q]? = H[q]?) → va_S A0 H0 H1 locs1 → W p l e R s m args below meth c H1 locs1 (cells + mc) (slots + ms) Q (F0 m (pc + 3) ls (.long r :: rest))) : W p l e R s m args below meth c H locs cells slots Q (F0 m pc ls st0) := by
  intro T hT X
  rcases hr T hT X with ⟨v, st₀, t, T', L, h0, X', hL, e1, e2, ⟨⟨r, u, hv, hp, hb⟩, hF⟩, st⟩ | ⟨q, st₀, t, T', L, E, ce, h0, X', hL, e1, e2, ⟨u, hp, hb, hF⟩, hce, hcv, hcl, st⟩
  · cases hv
    obtain ⟨k1, k2, k3⟩ := vx_keep h0 e1 hS hA hf hL hF
    obtain ⟨t2, a1, b1⟩ := kk r u t T'.heap (locs ++ L) e1.symm (by rw [← e2]; exact X'.warmed.alike) hp hb k1 k2 k3 T' rfl X'
    exact ⟨t2, st t2 a1, b1⟩
  · obtain ⟨k1, k2, k3⟩ := vx_keep h0 e1 hS hAX hf hL hF
    obtain ⟨t2, a1, b1⟩ := kx E ce q u t T'.heap (locs ++ L) e1.symm (by rw [← e2]; exact X'.warmed.alike) hp hb k1 k2 k3 (by rw [e1]; exact hce) hcv hcl T' rfl X'
    exact ⟨t2, st.trans a1, b1⟩
theorem vx_callf {S SX : Type} {post : UInt32 → S → Prop} {px : SX → Prop} {B : S → State → Prop} {BX : String → SX → State → Prop} {AX : Nat → Prop} (hr : vx_Run p l e R s m args below meth c H locs cells slots mc ms (F0 m pc ls st0) rest (va_Qf post B A1 a) (vx_X px BX AX) free) (hS : va_S A0 H0 H locs) (hA : ∀ q, q < H.size → A1 q → A0 q) (hf : ∀ q, free q → A0 q) (hAX : ∀ q, q < H.size → AX q → A0 q)
    (kx : ∀ (E : String) (ce : Cell) (q9 : Addr) (u : SX) (t : State) (H1 : Heap) (locs1 : List Loc), t.heap = H1 → s.vm.Alike t.vm → px u → BX E u t → H.size ≤ H1.size → (∀ q : Nat, q < H.size → ¬ AX q → H1[q]? = H[q]?) → va_S A0 H0 H1 locs1 → H1[q9]? = some ce → ce.vm = .none → s.vm.findClass E = some ce.cls → vx_W p l e R s m args below meth c H1 locs1 (cells + mc) (slots + ms) Q (F0 m pc ls rest) q9)
    (kk : ∀ (r : UInt32) (u : S) (t : State) (H1 : Heap) (locs1 : List Loc), t.heap = H1 → s.vm.Alike t.vm → post r u → B u t → H.size ≤ H1.size → (∀ q : Nat, q < H.size → ¬ A1 q → H1[q]? = H[q]?) → va_S A0 H0 H1 locs1 → W p l e R s m args below meth c H1 locs1 (cells + mc) (slots + ms) Q (F0 m (pc + 3) ls (.float r :: rest))) : W p l e R s m args below meth c H locs cells slots Q (F0 m pc ls st0) := by
  intro T hT X
  rcases hr T hT X with ⟨v, st₀, t, T', L, h0, X', hL, e1, e2, ⟨⟨r, u, hv, hp, hb⟩, hF⟩, st⟩ | ⟨q, st₀, t, T', L, E, ce, h0, X', hL, e1, e2, ⟨u, hp, hb, hF⟩, hce, hcv, hcl, st⟩
  · cases hv
    obtain ⟨k1, k2, k3⟩ := vx_keep h0 e1 hS hA hf hL hF
    obtain ⟨t2, a1, b1⟩ := kk r u t T'.heap (locs ++ L) e1.symm (by rw [← e2]; exact X'.warmed.alike) hp hb k1 k2 k3 T' rfl X'
    exact ⟨t2, st t2 a1, b1⟩
  · obtain ⟨k1, k2, k3⟩ := vx_keep h0 e1 hS hAX hf hL hF
    obtain ⟨t2, a1, b1⟩ := kx E ce q u t T'.heap (locs ++ L) e1.symm (by rw [← e2]; exact X'.warmed.alike) hp hb k1 k2 k3 (by rw [e1]; exact hce) hcv hcl T' rfl X'
    exact ⟨t2, st.trans a1, b1⟩
theorem vx_calld {S SX : Type} {post : UInt64 → S → Prop} {px : SX → Prop} {B : S → State → Prop} {BX : String → SX → State → Prop} {AX : Nat → Prop} (hr : vx_Run p l e R s m args below meth c H locs cells slots mc ms (F0 m pc ls st0) rest (va_Qd post B A1 a) (vx_X px BX AX) free) (hS : va_S A0 H0 H locs) (hA : ∀ q, q < H.size → A1 q → A0 q) (hf : ∀ q, free q → A0 q) (hAX : ∀ q, q < H.size → AX q → A0 q)
    (kx : ∀ (E : String) (ce : Cell) (q9 : Addr) (u : SX) (t : State) (H1 : Heap) (locs1 : List Loc), t.heap = H1 → s.vm.Alike t.vm → px u → BX E u t → H.size ≤ H1.size → (∀ q : Nat, q < H.size → ¬ AX q → H1[q]? = H[q]?) → va_S A0 H0 H1 locs1 → H1[q9]? = some ce → ce.vm = .none → s.vm.findClass E = some ce.cls → vx_W p l e R s m args below meth c H1 locs1 (cells + mc) (slots + ms) Q (F0 m pc ls rest) q9)
    (kk : ∀ (r : UInt64) (u : S) (t : State) (H1 : Heap) (locs1 : List Loc), t.heap = H1 → s.vm.Alike t.vm → post r u → B u t → H.size ≤ H1.size → (∀ q : Nat, q < H.size → ¬ A1 q → H1[q]? = H[q]?) → va_S A0 H0 H1 locs1 → W p l e R s m args below meth c H1 locs1 (cells + mc) (slots + ms) Q (F0 m (pc + 3) ls (.double r :: rest))) : W p l e R s m args below meth c H locs cells slots Q (F0 m pc ls st0) := by
  intro T hT X
  rcases hr T hT X with ⟨v, st₀, t, T', L, h0, X', hL, e1, e2, ⟨⟨r, u, hv, hp, hb⟩, hF⟩, st⟩ | ⟨q, st₀, t, T', L, E, ce, h0, X', hL, e1, e2, ⟨u, hp, hb, hF⟩, hce, hcv, hcl, st⟩
  · cases hv
    obtain ⟨k1, k2, k3⟩ := vx_keep h0 e1 hS hA hf hL hF
    obtain ⟨t2, a1, b1⟩ := kk r u t T'.heap (locs ++ L) e1.symm (by rw [← e2]; exact X'.warmed.alike) hp hb k1 k2 k3 T' rfl X'
    exact ⟨t2, st t2 a1, b1⟩
  · obtain ⟨k1, k2, k3⟩ := vx_keep h0 e1 hS hAX hf hL hF
    obtain ⟨t2, a1, b1⟩ := kx E ce q u t T'.heap (locs ++ L) e1.symm (by rw [← e2]; exact X'.warmed.alike) hp hb k1 k2 k3 (by rw [e1]; exact hce) hcv hcl T' rfl X'
    exact ⟨t2, st.trans a1, b1⟩
theorem vx_callv {S SX : Type} {post : S → Prop} {px : SX → Prop} {B : S → State → Prop} {BX : String → SX → State → Prop} {AX : Nat → Prop} (hr : vx_Run p l e R s m args below meth c H locs cells slots mc ms (F0 m pc ls st0) rest (va_Qv post B A1 a) (vx_X px BX AX) free) (hS : va_S A0 H0 H locs) (hA : ∀ q, q < H.size → A1 q → A0 q) (hf : ∀ q, free q → A0 q) (hAX : ∀ q, q < H.size → AX q → A0 q)
    (kx : ∀ (E : String) (ce : Cell) (q9 : Addr) (u : SX) (t : State) (H1 : Heap) (locs1 : List Loc), t.heap = H1 → s.vm.Alike t.vm → px u → BX E u t → H.size ≤ H1.size → (∀ q : Nat, q < H.size → ¬ AX q → H1[q]? = H[q]?) → va_S A0 H0 H1 locs1 → H1[q9]? = some ce → ce.vm = .none → s.vm.findClass E = some ce.cls → vx_W p l e R s m args below meth c H1 locs1 (cells + mc) (slots + ms) Q (F0 m pc ls rest) q9)
    (kk : ∀ (u : S) (t : State) (H1 : Heap) (locs1 : List Loc), t.heap = H1 → s.vm.Alike t.vm → post u → B u t → H.size ≤ H1.size → (∀ q : Nat, q < H.size → ¬ A1 q → H1[q]? = H[q]?) → va_S A0 H0 H1 locs1 → W p l e R s m args below meth c H1 locs1 (cells + mc) (slots + ms) Q (F0 m (pc + 3) ls (rest))) : W p l e R s m args below meth c H locs cells slots Q (F0 m pc ls st0) := by
  intro T hT X
  rcases hr T hT X with ⟨v, st₀, t, T', L, h0, X', hL, e1, e2, ⟨⟨u, hv, hp, hb⟩, hF⟩, st⟩ | ⟨q, st₀, t, T', L, E, ce, h0, X', hL, e1, e2, ⟨u, hp, hb, hF⟩, hce, hcv, hcl, st⟩
  · cases hv
    obtain ⟨k1, k2, k3⟩ := vx_keep h0 e1 hS hA hf hL hF
    obtain ⟨t2, a1, b1⟩ := kk u t T'.heap (locs ++ L) e1.symm (by rw [← e2]; exact X'.warmed.alike) hp hb k1 k2 k3 T' rfl X'
    exact ⟨t2, st t2 a1, b1⟩
  · obtain ⟨k1, k2, k3⟩ := vx_keep h0 e1 hS hAX hf hL hF
    obtain ⟨t2, a1, b1⟩ := kx E ce q u t T'.heap (locs ++ L) e1.symm (by rw [← e2]; exact X'.warmed.alike) hp hb k1 k2 k3 (by rw [e1]; exact hce) hcv hcl T' rfl X'
    exact ⟨t2, st.trans a1, b1⟩
/-- caught by the row x of this method's table; the rows ahead don't take it -/
theorem vx_catch {own name : String} {E : String} {ce : Cell} {q : Addr} (hown : s.vm.findClass own = some m.cls) (pre : List ExceptionTableEntry) (x : ExceptionTableEntry) (suf : List ExceptionTableEntry) (hsplit : c.exceptionTable.toList = pre ++ x :: suf)
    (hpass : ∀ z ∈ pre, covers z pc = false ∨ (z.catchType ≠ 0 ∧ ∃ nm : String, (Cond.classLink own z.catchType nm).before args s = true ∧ va_Nc E nm s)) (hx : covers x pc = true) (h0 : x.catchType ≠ 0)
    (hlink : (Cond.classLink own x.catchType name).before args s = true) (hcast : (Cond.castable E name).before args s = true) (hcell : H[q]? = some ce) (hv : ce.vm = .none) (hcl : s.vm.findClass E = some ce.cls)
    (kk : W p l e R s m args below meth c H locs cells slots Q (F0 m x.handlerPc ls [.ref q])) : vx_W p l e R s m args below meth c H locs cells slots Q (F0 m pc ls rest) q := by
  intro T hT X
  have hpl : e.platform.magicAccessors = ({} : Platform).magicAccessors := by rw [X.admits.platform]
  obtain ⟨c3, c4, hc3, hc4, hasg⟩ := Cond.castable_spec hcast
  cases Option.some.inj (hc3.symm.trans hcl)
  obtain ⟨c5, hc5, hcl5⟩ := Cond.classLink_spec hown hlink e.platform hpl
  cases Option.some.inj (hc4.symm.trans hc5)
  obtain ⟨vm', X', st⟩ := X.thenCaughtThrough q (g := F0 m pc ls rest) rfl (Steps.refl _) (by rw [hT]; exact hcell) (by rw [hv]; rfl) (by obtain ⟨k9, h9, -⟩ := Vm.findClass_spec hcl; exact ⟨k9, h9⟩) pre x suf hsplit
    (fun z hz => by
      rcases hpass z hz with h | ⟨hz0, nm, hl1, hn1⟩
      · exact Or.inl h
      · obtain ⟨c6, hc6, hcl6⟩ := Cond.classLink_spec hown hl1 e.platform hpl
        obtain ⟨a8, b8, h1, h2, h3⟩ := hn1
        cases Option.some.inj (h1.symm.trans hcl)
        cases Option.some.inj (h2.symm.trans hc6)
        exact Or.inr ⟨hz0, _, hcl6, h3⟩) hx (Or.inr ⟨h0, c4, hcl5, hasg⟩)
  obtain ⟨t, a1, b1⟩ := kk (T.setVm vm') hT X'
  exact ⟨t, st.trans a1, b1⟩
end Rows
section Ends
variable {p : Program} {l : Launch} {e : Env} {R : Room} {s : State} {m : MethodId} {args : Array Value} {below : List Frame} {meth : Method} {c : Code} {H : Heap} {locs : List Loc} {cells slots : Nat} {Q : State → Prop}
variable {mc ms : Nat} {free : Addr → Prop} {A0 A1 : Nat → Prop} {H0 : Heap} {a : Array Value} {ls : Array Slot} {st0 rest : List Value}
variable {Qc : Array Value → State → Outcome → State → Prop} {XC : String → State → State → Prop}
/-- what a body that may throw owes at its end -/
def vx_MQ (below : List Frame) (Qc : Array Value → State → Outcome → State → Prop) (XC : String → State → State → Prop) (a : Array Value) (s : State) (mc ms : Nat) (free : Addr → Prop) : State → Prop := fun t =>
  ∃ o, t.status = .running ∧ Ended t below o ∧ vx_Q Qc XC mc ms free a s o t
theorem vx_ret {g : JFrame} {mc ms : Nat} (k : W p l e R s m args below meth c H locs cells slots (MQ below Qc args s mc ms free) g) : W p l e R s m args below meth c H locs cells slots (vx_MQ below Qc XC args s mc ms free) g := by
  intro T hT X
  obtain ⟨t, a1, o, b1, b2, b3, b4⟩ := k T hT X
  exact ⟨t, a1, o, b1, b2, Or.inl ⟨b3, b4⟩⟩
/-- not caught here: it goes on to the caller -/
theorem vx_widen {g : JFrame} {q : Addr} {k n : Nat} (h1 : cells ≤ k) (h2 : slots ≤ n) (kk : vx_W p l e R s m args below meth c H locs k n Q g q) : vx_W p l e R s m args below meth c H locs cells slots Q g q := fun T hT X => kk T hT (stand_widen X h1 h2)
theorem vx_out {pc : Nat} {E : String} {ce : Cell} {q : Addr} {mc ms : Nat} (hout : ∀ x ∈ c.exceptionTable.toList, covers x pc = false) (hlocks : meth.locks = false) (hcell : H[q]? = some ce) (hv : ce.vm = .none) (hcl : s.vm.findClass E = some ce.cls)
    (hx : ∀ t : State, t.heap = H → s.vm.Alike t.vm → XC E s t) (hf : ∀ z ∈ locs, free z.base) (hc : cells ≤ mc) (hs : slots ≤ ms) :
    vx_W p l e R s m args below meth c H locs cells slots (vx_MQ below Qc XC args s mc ms free) (F0 m pc ls rest) q := by
  intro T hT X
  obtain ⟨st1, hrun, hend, hW, hsm⟩ := X.leaveThrown q (g := F0 m pc ls rest) rfl rfl rfl hout hlocks
  have hcell9 : (T.setFrames (.throwing q :: below)).heap[q]? = some ce := by
    show T.heap[q]? = some ce
    rw [hT]; exact hcell
  exact ⟨_, st1, .threw q, hrun, hend, Or.inr ⟨q, rfl, E, ce, locs, hx _ hT hW.alike, hcell9, hv, hcl, hW, hsm.mono hc hs, hf⟩⟩
theorem vx_frame {U : State} {k n : Nat} (h : s.sameButNew ({ U with vm := s.vm } : State) locs k n) : s.heap.size ≤ U.heap.size ∧ ∀ q : Nat, q < s.heap.size → (∀ z ∈ locs, z.base ≠ q) → U.heap[q]? = s.heap[q]? := by
  obtain ⟨-, h2, -, -, -, h6⟩ := h
  refine ⟨h2, fun q hq hz => ?_⟩
  obtain ⟨c9, e1, e2, e3, e4⟩ := h6 q _ (Array.getElem?_eq_getElem hq)
  have hs : c9.slots = (s.heap[q]).slots := Array.ext_getElem? fun i => e4 i fun hm => hz _ hm rfl
  have h9 : c9 = s.heap[q] := by
    rw [hs] at e2
    exact e2
  have e5 : U.heap[q]? = some c9 := e1
  rw [e5, h9, Array.getElem?_eq_getElem hq]
/-- the words of a throw but the four that speak of the heap -/
def vx_no (w : Cond) : Bool := decide (w ≠ .isRef (.static Bundle.tN "UNASSIGNED_STACK" Bundle.steD)) && decide (w ≠ .isRef (.static Bundle.tN "SUPPRESSED_SENTINEL" Bundle.listD)) && decide (w ≠ .laysStatic Bundle.tN "UNASSIGNED_STACK" Bundle.steD) && decide (w ≠ .laysStatic Bundle.tN "SUPPRESSED_SENTINEL" Bundle.listD)
def vx_at0 (own : String) (ic : Nat) (X : String) (names : List String) : List Cond := (Bundle.ownAtoms0 own ic X names).filter vx_no
def vx_atS (own : String) (ic : Nat) (X : String) (names : List String) : List Cond := (Bundle.ownAtoms own ic X names).filter vx_no
/-- a word that the tables alone decide, or a good one -/
def vx_ot (w : Cond) : Bool := w.onTables || goodWord w
theorem vx_ot_at {args a' : Array Value} {s U : State} {w : Cond} (hW : s.WarmedH U.vm) (hvm : s.vm = U.vm) (hg : vx_ot w = true) (h : w.before args s = true) : w.before a' U = true := by
  simp only [vx_ot, Bool.or_eq_true] at hg
  rcases hg with hg | hg
  · exact va_tabs hg hvm h
  · exact word_at hW (good_of_word hg) h
/-- a list's words: the good ones out of the method's own list, the others by premises of their own -/
theorem vx_hat {args : Array Value} {s : State} {L B : List Cond} (h1 : ∀ w ∈ L.filter goodWord, w.before args s = true) (h2 : ∀ w ∈ L.filter (fun w => !goodWord w), w ∈ B) (h3 : ∀ w ∈ B, w.before args s = true) : ∀ w ∈ L, w.before args s = true := by
  intro w hw
  by_cases g : goodWord w = true
  · exact h1 w (List.mem_filter.mpr ⟨hw, g⟩)
  · refine h3 w (h2 w (List.mem_filter.mpr ⟨hw, ?_⟩))
    show (!goodWord w) = true
    cases hgw : goodWord w
    · rfl
    · exact absurd hgw g
theorem vx_c {args : Array Value} {s : State} {w : Cond} {B : List Cond} (h : w.before args s = true) (t : ∀ w ∈ B, w.before args s = true) : ∀ w' ∈ w :: B, w'.before args s = true := fun w' h' => (List.mem_cons.mp h').elim (fun e => by rw [e]; exact h) (t w')
theorem vx_n {args : Array Value} {s : State} : ∀ w ∈ ([] : List Cond), w.before args s = true := fun _ h => nomatch h
theorem vx_own {args : Array Value} {s : State} {L : List Cond} (h1 : ∀ w ∈ L.filter vx_no, w.before args s = true)
    (hU : (Cond.isRef (.static Bundle.tN "UNASSIGNED_STACK" Bundle.steD)).before args s = true) (hN : (Cond.isRef (.static Bundle.tN "SUPPRESSED_SENTINEL" Bundle.listD)).before args s = true)
    (lU : (Cond.laysStatic Bundle.tN "UNASSIGNED_STACK" Bundle.steD).before args s = true) (lN : (Cond.laysStatic Bundle.tN "SUPPRESSED_SENTINEL" Bundle.listD).before args s = true) : ∀ w ∈ L, w.before args s = true := by
  intro w hw
  by_cases e1 : w = .isRef (.static Bundle.tN "UNASSIGNED_STACK" Bundle.steD)
  · rw [e1]; exact hU
  · by_cases e2 : w = .isRef (.static Bundle.tN "SUPPRESSED_SENTINEL" Bundle.listD)
    · rw [e2]; exact hN
    · by_cases e3 : w = .laysStatic Bundle.tN "UNASSIGNED_STACK" Bundle.steD
      · rw [e3]; exact lU
      · by_cases e4 : w = .laysStatic Bundle.tN "SUPPRESSED_SENTINEL" Bundle.listD
        · rw [e4]; exact lN
        · exact h1 w (List.mem_filter.mpr ⟨hw, by unfold vx_no; rw [decide_eq_true e1, decide_eq_true e2, decide_eq_true e3, decide_eq_true e4]; rfl⟩)
/-- where a static field lies, its class's statics cell in H -/
def vx_L (C n d : String) (A : Nat → Prop) (U : State) (H : Heap) : Prop := ∃ (c : ClassId) (k : Class) (i : Nat) (f : Field) (a : Nat) (cell : Cell), U.vm.findClass C = some c ∧ U.fieldFound? C n d = some (c, k, i, f) ∧ f.isStatic = true ∧ k.statics = some a ∧ H[a]? = some cell ∧ cell.vm.isStatics = true ∧ cell.cls = c ∧ f.slot < cell.slots.size ∧ k.staticTypes[f.slot]? = some f.type ∧ ¬ A a
theorem vx_L.moved {C n d : String} {A : Nat → Prop} {u U : State} {H : Heap} (hvm : u.vm.Alike U.vm) (h : vx_L C n d A u H) : vx_L C n d A U H := by
  obtain ⟨c, k, i, f, a, cell, h1, h2, h3, h4, h5, h6, h7, h8, h9, h10⟩ := h
  obtain ⟨k', hi', he⟩ := State.fieldFound?_setVm hvm h2
  exact ⟨c, k', i, f, a, cell, by rw [hvm.findClass]; exact h1, hi', h3, by rw [he]; exact h4, h5, h6, h7, h8, by rw [he]; exact h9, h10⟩
theorem vx_L.kept {C n d : String} {A : Nat → Prop} {U : State} {H H1 : Heap} (h : vx_L C n d A U H) (hq : ∀ a : Nat, a < H.size → ¬ A a → H1[a]? = H[a]?) : vx_L C n d A U H1 := by
  obtain ⟨c, k, i, f, a, cell, h1, h2, h3, h4, h5, h6, h7, h8, h9, h10⟩ := h
  exact ⟨c, k, i, f, a, cell, h1, h2, h3, h4, by rw [hq a (Array.getElem?_eq_some_iff.mp h5).1 h10]; exact h5, h6, h7, h8, h9, h10⟩
theorem vx_L.narrow {C n d : String} {A B : Nat → Prop} {U : State} {H : Heap} (h : vx_L C n d A U H) (hAB : ∀ q, B q → A q) : vx_L C n d B U H := by
  obtain ⟨c, k, i, f, a, cell, h1, h2, h3, h4, h5, h6, h7, h8, h9, h10⟩ := h
  exact ⟨c, k, i, f, a, cell, h1, h2, h3, h4, h5, h6, h7, h8, h9, fun z => h10 (hAB _ z)⟩
theorem vx_L.word {C n d : String} {A : Nat → Prop} {s : State} {args : Array Value} (h : vx_L C n d A s s.heap) : (Cond.laysStatic C n d).before args s = true := by
  obtain ⟨c, k, i, f, a, cell, h1, h2, h3, h4, h5, h6, h7, h8, h9, -⟩ := h
  show (Cond.laysStatic C n d).holds args s none s [] = true
  exact Cond.laysStatic_of h1 h2 h3 h4 h5 h6 h7 h8 h9
/-- .. and what it holds: null or some reference -/
def vx_Zq (C n d : String) (A : Nat → Prop) (U : State) (H : Heap) : Prop := va_Zq C n d A U H ∧ vx_L C n d A U H
theorem vx_Zq.moved {C n d : String} {A : Nat → Prop} {u U : State} {H : Heap} (hvm : u.vm.Alike U.vm) (h : vx_Zq C n d A u H) : vx_Zq C n d A U H := ⟨va_Zq.moved hvm h.1, vx_L.moved hvm h.2⟩
theorem vx_Zq.kept {C n d : String} {A : Nat → Prop} {U : State} {H H1 : Heap} (h : vx_Zq C n d A U H) (hq : ∀ a : Nat, a < H.size → ¬ A a → H1[a]? = H[a]?) : vx_Zq C n d A U H1 := ⟨va_Zq.kept h.1 hq, vx_L.kept h.2 hq⟩
theorem vx_Zq.narrow {C n d : String} {A B : Nat → Prop} {U : State} {H : Heap} (h : vx_Zq C n d A U H) (hAB : ∀ q, B q → A q) : vx_Zq C n d B U H := ⟨va_Zq.narrow h.1 hAB, vx_L.narrow h.2 hAB⟩
theorem vx_Zqof {args : Array Value} {s : State} {C n d : String} {A : Nat → Prop} (hl : (Cond.laysStatic C n d).before args s = true) (hini : (Cond.initialized C).before args s = true) (h : (Cond.isRef (.static C n d)).before args s = true) (hA : ∀ a : Nat, a < s.heap.size → ¬ A a) : vx_Zq C n d A s s.heap := by
  refine ⟨va_Zqof hl hini h hA, ?_⟩
  obtain ⟨c, k, i, f, a, cell, h1, h2, h3, h4, h5, h6, h7, h8, h9⟩ := Cond.laysStatic_spec hl
  exact ⟨c, k, i, f, a, cell, h1, h2, h3, h4, h5, h6, h7, h8, h9, hA a (Array.getElem?_eq_some_iff.mp h5).1⟩
theorem vx_isRef {C n d : String} {v : Value} {A : Nat → Prop} {s : State} {args : Array Value} (h : va_Z C n d v A s s.heap) (hv : v.isRef = true) : (Cond.isRef (.static C n d)).before args s = true := by
  obtain ⟨cf, kf, fi, f, a, cell, h1, h2, h3, h4, h5, h6, h7, -⟩ := h
  have he : (Term.static C n d).eval args s none [] s = some v := by
    simp [Term.eval, State.fieldNamed?, h1, h2, h4, h5, h6, h7]
  simp only [Cond.before, Cond.holds, Cond.value, he]
  cases v <;> simp_all [Value.isRef]
theorem vx_isRefq {C n d : String} {A : Nat → Prop} {s : State} {args : Array Value} (h : va_Zq C n d A s s.heap) : (Cond.isRef (.static C n d)).before args s = true := by
  rcases h with h | ⟨t, h⟩
  · exact vx_isRef h rfl
  · exact vx_isRef h rfl
/-- the same frame, seen from here: as if the method were called anew in this heap -/
theorem vx_rebase {T : State} (X : Stand p l e R s m args below meth c T locs cells slots) {R' : Room} (hf : R'.frames ≤ R.frames) (hl : R'.locals ≤ R.locals) (hc : cells + R'.cells ≤ R.cells) (hs : slots + R'.slots ≤ R.slots) :
    Stand p l e R' ((T.setVm s.vm).setFrames (.invoking m args :: below)) m args below meth c T [] 0 0 := by
  have htop : (T.setVm s.vm).topJava?.isSome := X.here.top
  have hF : ((T.setVm s.vm).setFrames (.invoking m args :: below)).frames = .invoking m args :: below := State.frames_setFrames _ (State.cur_lt_of_top htop)
  obtain ⟨g₀, hg0⟩ := Option.isSome_iff_exists.mp htop
  obtain ⟨r, hr⟩ := State.topJava?_eq_some.mp hg0
  have hl9 : e.platform.stackLimits (T.setVm s.vm).me = e.platform.stackLimits s.me := X.limits
  have hb9 : (T.setVm s.vm).me.stackBytes = s.me.stackBytes := X.bytes
  refine ⟨X.admits, X.cas, X.clock, hF, ?_, X.hears, X.method, X.code, X.here, X.tail, X.warmed, ?_, ?_, ?_⟩
  · have h := X.room
    have hU : ((T.setVm s.vm).setFrames (.invoking m args :: below)).localsInUse = s.localsInUse := by
      rw [State.localsInUse_invoking hF (meth := meth) (c := c) X.method X.code, State.localsInUse_invoking X.frames X.method X.code]
    simp only [State.hasRoom, Bool.and_eq_true, decide_eq_true_eq] at h ⊢
    obtain ⟨⟨⟨⟨h1, h2, h3, h4, h5, h6⟩, h7⟩, h8⟩, h9⟩ := h
    rw [X.frames, List.length_cons] at h2 h3
    have q1 := X.heapSize
    have q2 := X.used
    simp only [hF, hU, List.length_cons, State.stackLimits_setFrames, State.stackBytes_setFrames, hl9, hb9]
    refine ⟨⟨⟨⟨by omega, by omega, by omega, by omega, by omega, h6⟩, ?_⟩, ?_⟩, X.book⟩
    · show T.heap.size + R'.cells ≤ e.platform.maxCells
      omega
    · show T.slotsUsed + R'.slots ≤ e.platform.maxSlots
      omega
  · rw [State.stackLimits_setFrames]; rfl
  · rw [State.stackBytes_setFrames]; rfl
  · refine ⟨?_, Nat.le_refl _, Nat.le_refl _, ?_, ?_, fun a c9 h9 => ⟨c9, h9, rfl, rfl, fun _ _ => rfl⟩⟩
    · obtain ⟨t, ht, -⟩ := State.frames_cons hr
      show T.setVm s.vm = { ((T.setVm s.vm).setFrames (.invoking m args :: below)).setFrames (T.setVm s.vm).frames with heap := T.heap, slotsUsed := T.slotsUsed }
      rw [State.setFrames_setFrames, State.setFrames_self ht]
      rfl
    · show T.slotsUsed = T.slotsUsed + ((T.heap.toList.drop T.heap.size).map (·.slots.size)).sum
      rw [List.drop_eq_nil_of_le (Nat.le_of_eq Array.length_toList)]
      rfl
    · show ((T.heap.toList.drop T.heap.size).map (·.slots.size)).sum ≤ 0
      rw [List.drop_eq_nil_of_le (Nat.le_of_eq Array.length_toList)]
      exact Nat.le_refl _
/-- 'throw new E()': new; dup; invokespecial; athrow -/
theorem vx_throw0 {cc : ByteArray} {pc : Nat} (hexec : p.tables.exec = Jvm.exec) (hb : c.code = cc) (hl : l.stackTraces = false) {own cls : String} {names : List String} {ik ic mc ms : Nat} {A : Nat → Prop}
    (hown : s.vm.findClass own = some m.cls) (hcls : Bundle.fit cls = true) (hnames : ∀ n ∈ names, Bundle.fit n = true)
    (hk : (Cond.classLink own ik cls).before args s = true) (hini : (Cond.initialized cls).before args s = true) (hat : ∀ w ∈ vx_at0 own ic cls names, w.before args s = true)
    (hgood : ∀ w ∈ Cond.classLink own ik cls :: Cond.initialized cls :: vx_at0 own ic cls names, vx_ot w = true)
    (hU : vx_Zq Bundle.tN "UNASSIGNED_STACK" Bundle.steD A s s.heap) (hN : vx_Zq Bundle.tN "SUPPRESSED_SENTINEL" Bundle.listD A s s.heap) (hS : va_S A s.heap H locs) (hsize : ls.size = c.maxLocals)
    (d0 : decode cc pc = .ok (.new ik, 3)) (d3 : decode cc (pc + 3) = .ok (.dup, 1)) (d4 : decode cc (pc + 4) = .ok (.invokespecial ic, 3)) (d7 : decode cc (pc + 7) = .ok (.athrow, 1))
    (hout : ∀ x ∈ c.exceptionTable.toList, covers x (pc + 7) = false)
    (hRframes : names.length + 3 < R.frames) (hRlocals : (rest.map fun v => v.category).sum + (13 * (names.length + 1) + 42) ≤ R.locals) (hRcells : cells + 1 ≤ R.cells) (hRslots : slots + 6 ≤ R.slots) (hlocks : meth.locks = false)
    (hx : ∀ t : State, s.vm.Alike t.vm → H.size ≤ t.heap.size → (∀ q : Nat, q < H.size → t.heap[q]? = H[q]?) → XC cls s t)
    (hf : ∀ z ∈ locs, free z.base) (hc : cells + 1 ≤ mc) (hs : slots + 6 ≤ ms) :
    W p l e R s m args below meth c H locs cells slots (vx_MQ below Qc XC args s mc ms free) (F0 m pc ls rest) := by
  intro T hT X
  have htr : e.platform.stackTraces = false := (show e.platform.stackTraces = l.stackTraces by rw [X.admits.platform]).trans hl
  have Y := vx_rebase X (R' := { frames := R.frames, locals := R.locals, cells := 1, slots := 6 }) (Nat.le_refl _) (Nat.le_refl _) hRcells hRslots
  obtain ⟨s', hA⟩ : ∃ z, z = (T.setVm s.vm).setFrames (.invoking m args :: below) := ⟨_, rfl⟩
  rw [← hA] at Y
  have hvm : s'.vm = s.vm := by rw [hA]; rfl
  have hhp : s'.heap = H := by rw [hA]; exact hT
  have hW0 : s.WarmedH s'.vm := by rw [hvm]; exact State.WarmedH.refl s
  have hat' : ∀ w ∈ vx_at0 own ic cls names, w.before args s' = true := fun w hw => vx_ot_at hW0 hvm.symm (hgood w (List.mem_cons_of_mem _ (List.mem_cons_of_mem _ hw))) (hat w hw)
  have hk' : (Cond.classLink own ik cls).before args s' = true := vx_ot_at hW0 hvm.symm (hgood _ List.mem_cons_self) hk
  have hini' : (Cond.initialized cls).before args s' = true := vx_ot_at hW0 hvm.symm (hgood _ (List.mem_cons_of_mem _ List.mem_cons_self)) hini
  have hU' : vx_Zq Bundle.tN "UNASSIGNED_STACK" Bundle.steD A s' s'.heap := by rw [hhp]; exact vx_Zq.moved hW0.alike (hU.kept hS.2.1)
  have hN' : vx_Zq Bundle.tN "SUPPRESSED_SENTINEL" Bundle.listD A s' s'.heap := by rw [hhp]; exact vx_Zq.moved hW0.alike (hN.kept hS.2.1)
  have h : ∀ w ∈ Bundle.ownAtoms0 own ic cls names, w.before args s' = true := vx_own hat' (vx_isRefq hU'.1) (vx_isRefq hN'.1) hU'.2.word hN'.2.word
  have hown' : s'.vm.findClass own = some m.cls := by rw [hvm]; exact hown
  have hins : (Cond.instantiable cls 6).before args s' = true := h _ (by simp [Bundle.ownAtoms0])
  obtain ⟨vm₁, cX, kX, hfX, hkX, -, -, X₁, st1⟩ := Y.newCold hexec (own := own) (C := cls) (index := ik) (n := 6) hown' hk' hins hini'
    (g := F0 m pc ls rest) rfl (by rw [hb]; exact d0) (Nat.le_refl _) (Nat.le_refl _)
  generalize hT1 : (T.setVm vm₁).pushCell { cls := cX, slots := kX.instanceTypes.map defaultValue, vm := .none } = T1 at X₁ st1
  have hcat : (Value.ref T.heap.size).category = 1 := rfl
  have hcellA : T1.heap[T.heap.size]? = some (freshCell cX kX) := by rw [← hT1]; exact State.heap_pushCell_size _ _
  have d3' : decode c.code (pc + 3) = .ok (.dup, 1) := by rw [hb]; exact d3
  obtain ⟨U, hsteps, hrun, hend, hW, hsame, ce, hce, hO⟩ := X₁.ctorThrow0 hexec htr (own := own) (cls := cls) (names := names) (ic := ic) hown' hcls hnames h (fun x hx => nomatch hx) hfX hkX hcellA (by rw [hhp, hT]; exact Nat.le_refl _)
    (g := { method := m, pc := pc + 4, locals := ls, stack := .ref T.heap.size :: .ref T.heap.size :: rest, locked := none }) rfl hsize rfl rfl (rest := rest) rfl
    (by rw [hb]; exact d4) (by rw [hb]; exact d7) hout hRframes (by simp only [List.map_cons, List.sum_cons, hcat]; omega) hlocks
  obtain ⟨f1, f2⟩ := vx_frame hsame
  rw [hhp] at f1 f2
  have hWs : s.WarmedH U.vm := State.WarmedH.trans hW0 hW
  have hcl : s.vm.findClass cls = some ce.cls := by
    have h9 := hO.cls
    rw [hvm] at h9
    exact h9
  have hall : s.sameButNew ({ U with vm := s.vm } : State) locs mc ms := by
    subst hA
    obtain ⟨e1, e2⟩ := hsame
    rw [State.setFrames_setFrames] at e1
    have h2 : (T.setVm s.vm).sameButNew ({ U with vm := s.vm } : State) [] (0 + 1) (0 + 6) := ⟨e1, e2⟩
    have h3 := X.same.trans h2
    rw [List.append_nil] at h3
    exact h3.mono hc hs
  refine ⟨U, ?_, .threw T.heap.size, hrun, hend, Or.inr ⟨T.heap.size, rfl, cls, ce, locs, hx U hWs.alike f1 (fun q hq => f2 q hq (fun z hz => nomatch hz)), hce, hO.vm, hcl, hWs, hall, hf⟩⟩
  refine st1 _ ?_
  show Steps p.tables e below (T1.setTop { method := m, pc := pc + 3, locals := ls, stack := .ref T.heap.size :: rest, locked := none }) _
  jvm_step X₁.here [X₁.here.top, hexec, d3', Value.category]
  exact hsteps
/-- 'throw new E("text")': new; dup; ldc; invokespecial; athrow -/
theorem vx_throwS {cc : ByteArray} {pc : Nat} (hexec : p.tables.exec = Jvm.exec) (hb : c.code = cc) (hl : l.stackTraces = false) {own cls text : String} {names : List String} {ik is ic mc ms sa : Nat} {A : Nat → Prop}
    (hown : s.vm.findClass own = some m.cls) (hcls : Bundle.fit cls = true) (hnames : ∀ n ∈ names, Bundle.fit n = true)
    (hk : (Cond.classLink own ik cls).before args s = true) (hini : (Cond.initialized cls).before args s = true) (hstr : vk_R own is text sa s) (hat : ∀ w ∈ vx_atS own ic cls names, w.before args s = true)
    (hgood : ∀ w ∈ Cond.classLink own ik cls :: Cond.initialized cls :: vx_atS own ic cls names, vx_ot w = true)
    (hU : vx_Zq Bundle.tN "UNASSIGNED_STACK" Bundle.steD A s s.heap) (hN : vx_Zq Bundle.tN "SUPPRESSED_SENTINEL" Bundle.listD A s s.heap) (hS : va_S A s.heap H locs) (hsize : ls.size = c.maxLocals)
    (d0 : decode cc pc = .ok (.new ik, 3)) (d3 : decode cc (pc + 3) = .ok (.dup, 1)) (d4 : decode cc (pc + 4) = .ok (.ldc is, 2)) (d6 : decode cc (pc + 6) = .ok (.invokespecial ic, 3)) (d9 : decode cc (pc + 9) = .ok (.athrow, 1))
    (hout : ∀ x ∈ c.exceptionTable.toList, covers x (pc + 9) = false)
    (hRframes : names.length + 3 < R.frames) (hRlocals : (rest.map fun v => v.category).sum + (13 * (names.length + 1) + 43) ≤ R.locals) (hRcells : cells + 1 ≤ R.cells) (hRslots : slots + 6 ≤ R.slots) (hlocks : meth.locks = false)
    (hx : ∀ t : State, s.vm.Alike t.vm → H.size ≤ t.heap.size → (∀ q : Nat, q < H.size → t.heap[q]? = H[q]?) → XC cls s t)
    (hf : ∀ z ∈ locs, free z.base) (hc : cells + 1 ≤ mc) (hs : slots + 6 ≤ ms) :
    W p l e R s m args below meth c H locs cells slots (vx_MQ below Qc XC args s mc ms free) (F0 m pc ls rest) := by
  intro T hT X
  have htr : e.platform.stackTraces = false := (show e.platform.stackTraces = l.stackTraces by rw [X.admits.platform]).trans hl
  have Y := vx_rebase X (R' := { frames := R.frames, locals := R.locals, cells := 1, slots := 6 }) (Nat.le_refl _) (Nat.le_refl _) hRcells hRslots
  obtain ⟨s', hA⟩ : ∃ z, z = (T.setVm s.vm).setFrames (.invoking m args :: below) := ⟨_, rfl⟩
  rw [← hA] at Y
  have hvm : s'.vm = s.vm := by rw [hA]; rfl
  have hhp : s'.heap = H := by rw [hA]; exact hT
  have hW0 : s.WarmedH s'.vm := by rw [hvm]; exact State.WarmedH.refl s
  have hat' : ∀ w ∈ vx_atS own ic cls names, w.before args s' = true := fun w hw => vx_ot_at hW0 hvm.symm (hgood w (List.mem_cons_of_mem _ (List.mem_cons_of_mem _ hw))) (hat w hw)
  have hk' : (Cond.classLink own ik cls).before args s' = true := vx_ot_at hW0 hvm.symm (hgood _ List.mem_cons_self) hk
  have hini' : (Cond.initialized cls).before args s' = true := vx_ot_at hW0 hvm.symm (hgood _ (List.mem_cons_of_mem _ List.mem_cons_self)) hini
  have hU' : vx_Zq Bundle.tN "UNASSIGNED_STACK" Bundle.steD A s' s'.heap := by rw [hhp]; exact vx_Zq.moved hW0.alike (hU.kept hS.2.1)
  have hN' : vx_Zq Bundle.tN "SUPPRESSED_SENTINEL" Bundle.listD A s' s'.heap := by rw [hhp]; exact vx_Zq.moved hW0.alike (hN.kept hS.2.1)
  have h : ∀ w ∈ Bundle.ownAtoms own ic cls names, w.before args s' = true := vx_own hat' (vx_isRefq hU'.1) (vx_isRefq hN'.1) hU'.2.word hN'.2.word
  have hown' : s'.vm.findClass own = some m.cls := by rw [hvm]; exact hown
  have hins : (Cond.instantiable cls 6).before args s' = true := h _ (by simp [Bundle.ownAtoms])
  obtain ⟨vm₁, cX, kX, hfX, hkX, -, -, X₁, st1⟩ := Y.newCold hexec (own := own) (C := cls) (index := ik) (n := 6) hown' hk' hins hini'
    (g := F0 m pc ls rest) rfl (by rw [hb]; exact d0) (Nat.le_refl _) (Nat.le_refl _)
  generalize hT1 : (T.setVm vm₁).pushCell { cls := cX, slots := kX.instanceTypes.map defaultValue, vm := .none } = T1 at X₁ st1
  have hcat : (Value.ref T.heap.size).category = 1 := rfl
  have hcellA : T1.heap[T.heap.size]? = some (freshCell cX kX) := by rw [← hT1]; exact State.heap_pushCell_size _ _
  have d3' : decode c.code (pc + 3) = .ok (.dup, 1) := by rw [hb]; exact d3
  have d4' : decode c.code (pc + 4) = .ok (.ldc is, 2) := by rw [hb]; exact d4
  have hstr' : vk_R own is text sa s' := vk_R.warm hW0 hstr
  obtain ⟨U, hsteps, hrun, hend, hW, hsame, ce, hce, hO⟩ := X₁.ctorThrowS hexec htr (own := own) (cls := cls) (names := names) (ic := ic) hown' hcls hnames h (fun x hx => nomatch hx) hfX hkX hcellA (by rw [hhp, hT]; exact Nat.le_refl _) (msg := .ref sa) rfl
    (g := { method := m, pc := pc + 6, locals := ls, stack := .ref sa :: .ref T.heap.size :: .ref T.heap.size :: rest, locked := none }) rfl hsize rfl rfl (rest := rest) rfl
    (by rw [hb]; exact d6) (by rw [hb]; exact d9) hout hRframes (by simp only [List.map_cons, List.sum_cons, hcat]; omega) hlocks
  obtain ⟨f1, f2⟩ := vx_frame hsame
  rw [hhp] at f1 f2
  have hWs : s.WarmedH U.vm := State.WarmedH.trans hW0 hW
  have hcl : s.vm.findClass cls = some ce.cls := by
    have h9 := hO.cls
    rw [hvm] at h9
    exact h9
  have hall : s.sameButNew ({ U with vm := s.vm } : State) locs mc ms := by
    subst hA
    obtain ⟨e1, e2⟩ := hsame
    rw [State.setFrames_setFrames] at e1
    have h2 : (T.setVm s.vm).sameButNew ({ U with vm := s.vm } : State) [] (0 + 1) (0 + 6) := ⟨e1, e2⟩
    have h3 := X.same.trans h2
    rw [List.append_nil] at h3
    exact h3.mono hc hs
  refine ⟨U, ?_, .threw T.heap.size, hrun, hend, Or.inr ⟨T.heap.size, rfl, cls, ce, locs, hx U hWs.alike f1 (fun q hq => f2 q hq (fun z hz => nomatch hz)), hce, hO.vm, hcl, hWs, hall, hf⟩⟩
  refine st1 _ ?_
  show Steps p.tables e below (T1.setTop { method := m, pc := pc + 3, locals := ls, stack := .ref T.heap.size :: rest, locked := none }) _
  jvm_step X₁.here [X₁.here.top, hexec, d3', Value.category]
  exact X₁.ldcString hexec (own := own) (text := text) (index := is) (a := sa) hown' hstr'.1 hstr'.2
    (g := { method := m, pc := pc + 4, locals := ls, stack := .ref T.heap.size :: .ref T.heap.size :: rest, locked := none }) rfl d4' _ hsteps
/-- 'throw new E("text")', the text by a wide index -/
theorem vx_throwSW {cc : ByteArray} {pc : Nat} (hexec : p.tables.exec = Jvm.exec) (hb : c.code = cc) (hl : l.stackTraces = false) {own cls text : String} {names : List String} {ik is ic mc ms sa : Nat} {A : Nat → Prop}
    (hown : s.vm.findClass own = some m.cls) (hcls : Bundle.fit cls = true) (hnames : ∀ n ∈ names, Bundle.fit n = true)
    (hk : (Cond.classLink own ik cls).before args s = true) (hini : (Cond.initialized cls).before args s = true) (hstr : vk_R own is text sa s) (hat : ∀ w ∈ vx_atS own ic cls names, w.before args s = true)
    (hgood : ∀ w ∈ Cond.classLink own ik cls :: Cond.initialized cls :: vx_atS own ic cls names, vx_ot w = true)
    (hU : vx_Zq Bundle.tN "UNASSIGNED_STACK" Bundle.steD A s s.heap) (hN : vx_Zq Bundle.tN "SUPPRESSED_SENTINEL" Bundle.listD A s s.heap) (hS : va_S A s.heap H locs) (hsize : ls.size = c.maxLocals)
    (d0 : decode cc pc = .ok (.new ik, 3)) (d3 : decode cc (pc + 3) = .ok (.dup, 1)) (d4 : decode cc (pc + 4) = .ok (.ldc_w is, 3)) (d7 : decode cc (pc + 7) = .ok (.invokespecial ic, 3)) (d10 : decode cc (pc + 10) = .ok (.athrow, 1))
    (hout : ∀ x ∈ c.exceptionTable.toList, covers x (pc + 10) = false)
    (hRframes : names.length + 3 < R.frames) (hRlocals : (rest.map fun v => v.category).sum + (13 * (names.length + 1) + 43) ≤ R.locals) (hRcells : cells + 1 ≤ R.cells) (hRslots : slots + 6 ≤ R.slots) (hlocks : meth.locks = false)
    (hx : ∀ t : State, s.vm.Alike t.vm → H.size ≤ t.heap.size → (∀ q : Nat, q < H.size → t.heap[q]? = H[q]?) → XC cls s t)
    (hf : ∀ z ∈ locs, free z.base) (hc : cells + 1 ≤ mc) (hs : slots + 6 ≤ ms) :
    W p l e R s m args below meth c H locs cells slots (vx_MQ below Qc XC args s mc ms free) (F0 m pc ls rest) := by
  intro T hT X
  have htr : e.platform.stackTraces = false := (show e.platform.stackTraces = l.stackTraces by rw [X.admits.platform]).trans hl
  have Y := vx_rebase X (R' := { frames := R.frames, locals := R.locals, cells := 1, slots := 6 }) (Nat.le_refl _) (Nat.le_refl _) hRcells hRslots
  obtain ⟨s', hA⟩ : ∃ z, z = (T.setVm s.vm).setFrames (.invoking m args :: below) := ⟨_, rfl⟩
  rw [← hA] at Y
  have hvm : s'.vm = s.vm := by rw [hA]; rfl
  have hhp : s'.heap = H := by rw [hA]; exact hT
  have hW0 : s.WarmedH s'.vm := by rw [hvm]; exact State.WarmedH.refl s
  have hat' : ∀ w ∈ vx_atS own ic cls names, w.before args s' = true := fun w hw => vx_ot_at hW0 hvm.symm (hgood w (List.mem_cons_of_mem _ (List.mem_cons_of_mem _ hw))) (hat w hw)
  have hk' : (Cond.classLink own ik cls).before args s' = true := vx_ot_at hW0 hvm.symm (hgood _ List.mem_cons_self) hk
  have hini' : (Cond.initialized cls).before args s' = true := vx_ot_at hW0 hvm.symm (hgood _ (List.mem_cons_of_mem _ List.mem_cons_self)) hini
  have hU' : vx_Zq Bundle.tN "UNASSIGNED_STACK" Bundle.steD A s' s'.heap := by rw [hhp]; exact vx_Zq.moved hW0.alike (hU.kept hS.2.1)
  have hN' : vx_Zq Bundle.tN "SUPPRESSED_SENTINEL" Bundle.listD A s' s'.heap := by rw [hhp]; exact vx_Zq.moved hW0.alike (hN.kept hS.2.1)
  have h : ∀ w ∈ Bundle.ownAtoms own ic cls names, w.before args s' = true := vx_own hat' (vx_isRefq hU'.1) (vx_isRefq hN'.1) hU'.2.word hN'.2.word
  have hown' : s'.vm.findClass own = some m.cls := by rw [hvm]; exact hown
  have hins : (Cond.instantiable cls 6).before args s' = true := h _ (by simp [Bundle.ownAtoms])
  obtain ⟨vm₁, cX, kX, hfX, hkX, -, -, X₁, st1⟩ := Y.newCold hexec (own := own) (C := cls) (index := ik) (n := 6) hown' hk' hins hini'
    (g := F0 m pc ls rest) rfl (by rw [hb]; exact d0) (Nat.le_refl _) (Nat.le_refl _)
  generalize hT1 : (T.setVm vm₁).pushCell { cls := cX, slots := kX.instanceTypes.map defaultValue, vm := .none } = T1 at X₁ st1
  have hcat : (Value.ref T.heap.size).category = 1 := rfl
  have hcellA : T1.heap[T.heap.size]? = some (freshCell cX kX) := by rw [← hT1]; exact State.heap_pushCell_size _ _
  have d3' : decode c.code (pc + 3) = .ok (.dup, 1) := by rw [hb]; exact d3
  have d4' : decode c.code (pc + 4) = .ok (.ldc_w is, 3) := by rw [hb]; exact d4
  have hstr' : vk_R own is text sa s' := vk_R.warm hW0 hstr
  obtain ⟨U, hsteps, hrun, hend, hW, hsame, ce, hce, hO⟩ := X₁.ctorThrowS hexec htr (own := own) (cls := cls) (names := names) (ic := ic) hown' hcls hnames h (fun x hx => nomatch hx) hfX hkX hcellA (by rw [hhp, hT]; exact Nat.le_refl _) (msg := .ref sa) rfl
    (g := { method := m, pc := pc + 7, locals := ls, stack := .ref sa :: .ref T.heap.size :: .ref T.heap.size :: rest, locked := none }) rfl hsize rfl rfl (rest := rest) rfl
    (by rw [hb]; exact d7) (by rw [hb]; exact d10) hout hRframes (by simp only [List.map_cons, List.sum_cons, hcat]; omega) hlocks
  obtain ⟨f1, f2⟩ := vx_frame hsame
  rw [hhp] at f1 f2
  have hWs : s.WarmedH U.vm := State.WarmedH.trans hW0 hW
  have hcl : s.vm.findClass cls = some ce.cls := by
    have h9 := hO.cls
    rw [hvm] at h9
    exact h9
  have hall : s.sameButNew ({ U with vm := s.vm } : State) locs mc ms := by
    subst hA
    obtain ⟨e1, e2⟩ := hsame
    rw [State.setFrames_setFrames] at e1
    have h2 : (T.setVm s.vm).sameButNew ({ U with vm := s.vm } : State) [] (0 + 1) (0 + 6) := ⟨e1, e2⟩
    have h3 := X.same.trans h2
    rw [List.append_nil] at h3
    exact h3.mono hc hs
  refine ⟨U, ?_, .threw T.heap.size, hrun, hend, Or.inr ⟨T.heap.size, rfl, cls, ce, locs, hx U hWs.alike f1 (fun q hq => f2 q hq (fun z hz => nomatch hz)), hce, hO.vm, hcl, hWs, hall, hf⟩⟩
  refine st1 _ ?_
  show Steps p.tables e below (T1.setTop { method := m, pc := pc + 3, locals := ls, stack := .ref T.heap.size :: rest, locked := none }) _
  jvm_step X₁.here [X₁.here.top, hexec, d3', Value.category]
  exact X₁.ldcStringW hexec (own := own) (text := text) (index := is) (a := sa) hown' hstr'.1 hstr'.2
    (g := { method := m, pc := pc + 4, locals := ls, stack := .ref T.heap.size :: .ref T.heap.size :: rest, locked := none }) rfl d4' _ hsteps
end Ends
section Bodies
variable {l : Launch}
theorem vx_ofW {y : MethodName} {ws ws' : List Cond} {rm : Room} {Pc : Array Value → State → Prop} {Qc : Array Value → State → Outcome → State → Prop} {XC : String → State → State → Prop} {mc ms : Nat} {free : Addr → Prop} {cc : ByteArray} {maxL : Nat} {ret : Option FieldType}
    (hy : plainName y.cls = true) (hw : ws = Cond.code y cc maxL ret :: ws')
    (body : ∀ p e s m args below meth c s₁, BodyLoose p l y (headSpec ws rm) cc maxL ret e s m args below meth c s₁ → c.maxLocals = maxL → (∀ x ∈ c.exceptionTable.toList, False) → Pc args s →
      W p l e (headSpec ws rm).room s m args below meth c s.heap [] 0 0 (vx_MQ below Qc XC args s mc ms free) (entryFrame m args maxL)) : vx_Met l y ws rm Pc Qc XC mc ms free := by
  refine MetFree.of_bodyS (code := cc) (maxLocals := maxL) (ret := ret) hy ?_ ?_
  · intro args s m h hn
    obtain ⟨meth, c, h1, h2, h3, h4, h5, h6, -, -⟩ := Cond.code_spec hn (atoms_spec (ws := ws) h _ (by rw [hw]; exact List.mem_cons_self))
    exact ⟨meth, c, h1, h2, h3, h4, h5, h6⟩
  · intro p e s m args below meth c s₁ B hml hP _
    have hh0 : s₁.heap = s.heap := by rw [B.state]; rfl
    have ht : ∀ x ∈ c.exceptionTable.toList, False := by
      obtain ⟨meth9, c9, h1, h2, -, -, -, -, h7, -⟩ := Cond.code_spec B.named (atoms_spec (ws := ws) B.pre _ (by rw [hw]; exact List.mem_cons_self))
      cases Option.some.inj (h1.symm.trans B.method)
      cases Option.some.inj (h2.symm.trans (Stand.of_body B).code)
      intro x hx
      rw [Array.isEmpty_iff.mp h7] at hx
      cases hx
    obtain ⟨t, a1, o, b1, b2, b3⟩ := body p e s m args below meth c s₁ B hml ht hP s₁ hh0 (Stand.of_body B)
    exact ⟨t, o, a1, b1, b2, b3⟩
/-- the table of a body with handlers -/
theorem vx_table {p : Program} {x y : MethodName} {S : Spec} {cc bytes : ByteArray} {maxL maxL' : Nat} {ret ret' : Option FieldType} {e : Env} {s s₁ : State} {m : MethodId} {args : Array Value} {below : List Frame} {meth : Method} {c : Code} {hh : List (Nat × Nat × Nat × Nat)}
    (B : BodyLoose p l y S cc maxL ret e s m args below meth c s₁) (h : (Cond.codeWith y bytes maxL' ret' hh).before args s = true) : c.exceptionTable.toList = tableOf hh := by
  obtain ⟨m9, meth9, c9, hn9, h1, h2, -, -, h6, -⟩ := Cond.codeWith_spec h
  cases Option.some.inj (hn9.symm.trans B.named)
  cases Option.some.inj (h1.symm.trans B.method)
  cases Option.some.inj (h2.symm.trans (Stand.of_body B).code)
  rw [← h6, table_eq]
end Bodies
end VXA
/-! ===== END ===== -/
/-! ===== BEGIN a static call of a method with an exception table ===== -/
section VXS
variable {p : Program} {l : Launch} {e : Env} {R : Room} {s : State} {m : MethodId} {args : Array Value} {below : List Frame} {meth : Method} {c : Code} {T : State} {H : Heap} {locs : List Loc} {cells slots : Nat}
abbrev vx_CSW (R : Room) (s : State) (args : Array Value) (own : String) (index : Nat) (y : MethodName) (bytes : ByteArray) (maxL : Nat) (ret : Option FieldType) (hh : List (Nat × Nat × Nat × Nat)) (ws : List Cond) (rm : Room) (mc ms n : Nat) : Prop :=
  (rm.cells = mc ∧ rm.slots = ms ∧ rm.frames + 1 ≤ R.frames ∧ 8 + (maxL + 11) + rm.locals ≤ R.locals ∧ (∀ w ∈ ws, ∀ (a' : Array Value) (U : State), s.WarmedH U.vm → w.before a' U = true) ∧ Cond.codeWith y bytes maxL ret hh ∈ ws) ∧
  (Cond.codeWith y bytes maxL ret hh).before args s = true ∧ (Cond.initialized y.cls).before args s = true ∧ (y.cls ≠ "java/lang/invoke/MethodHandle" ∧ y.cls ≠ "java/lang/invoke/VarHandle") ∧
  (∀ sig, parseMethodDescriptor y.desc = some sig → n = sig.parameters.length) ∧ (Cond.methodLink own index y).before args s = true ∧ (Cond.static y).before args s = true
theorem vx_cwSW {own : String} {index maxL mc ms : Nat} {y : MethodName} {bytes : ByteArray} {ret : Option FieldType} {hh : List (Nat × Nat × Nat × Nat)} {Ts ws ws' : List Cond} {rm : Room} (n : Nat) (ht : ∀ w ∈ Ts, w.before args s = true) (hT : GoodIn Ts (va_wsS own index y ws)) (hw : ws = Cond.codeWith y bytes maxL ret hh :: ws') (hrc : rm.cells = mc) (hrs : rm.slots = ms)
    (hd : y.cls ≠ "java/lang/invoke/MethodHandle" ∧ y.cls ≠ "java/lang/invoke/VarHandle" ∧ (parseMethodDescriptor y.desc).map (fun d => d.parameters.length) = some n) (hR : rm.frames + 1 ≤ R.frames ∧ 8 + (maxL + 11) + rm.locals ≤ R.locals) :
    vx_CSW R s args own index y bytes maxL ret hh ws rm mc ms n := by
  have ok : ∀ w ∈ va_wsS own index y ws, w.before args s = true := fun w h => ht w (hT w h).1
  have hG : GoodIn Ts ws := fun w h => hT w (by unfold va_wsS; exact List.mem_append_right _ h)
  have hc : Cond.codeWith y bytes maxL ret hh ∈ ws := by rw [hw]; exact List.mem_cons_self
  refine ⟨⟨hrc, hrs, hR.1, hR.2, pay_in ht hG, hc⟩, ht _ (hG _ hc).1, ok _ (by simp [va_wsS]), ⟨hd.1, hd.2.1⟩, fun sig h => ?_, ok _ (by simp [va_wsS]), ok _ (by simp [va_wsS])⟩
  have h2 := hd.2.2
  rw [h] at h2
  exact (Option.some.inj h2).symm
theorem vx_callSW (X : Stand p l e R s m args below meth c T locs cells slots) (hexec : p.tables.exec = Jvm.exec) {own : String} {index : Nat} {y : MethodName} {bytes : ByteArray} {maxL : Nat} {ret : Option FieldType} {hh : List (Nat × Nat × Nat × Nat)}
    (hown : s.vm.findClass own = some m.cls) (hlink : (Cond.methodLink own index y).before args s = true) (hstat : (Cond.static y).before args s = true) (hinit : (Cond.initialized y.cls).before args s = true)
    (hcode : (Cond.codeWith y bytes maxL ret hh).before args s = true) (hy : y.cls ≠ "java/lang/invoke/MethodHandle" ∧ y.cls ≠ "java/lang/invoke/VarHandle")
    {W9 : Nat} {Pre : Pt → Array Value → Prop} {Post : Pt → Array Value → Option Value → Pt → Prop} (hK : Back l R p e below s args y 3 W9 Pre Post)
    {g : JFrame} (hg : g.method = m) (hsize : g.locals.size = c.maxLocals) {argsL rest : List Value} (hlen : ∀ sig, parseMethodDescriptor y.desc = some sig → argsL.length = sig.parameters.length)
    (hstack : g.stack = argsL.reverse ++ rest) (hW : 2 * g.monitorRoom + (rest.map fun v => v.category).sum ≤ W9) (hdg : decode c.code g.pc = .ok (.invokestatic index, 3))
    (hpre : ∀ vm₁, s.WarmedH vm₁ → Pre ⟨T.setVm vm₁, locs, cells, slots⟩ argsL.toArray) :
    ∃ (v : Option Value) (vm₁ : Vm) (B : Pt), s.WarmedH vm₁ ∧ Stand p l e R s m args below meth c B.U B.locs B.cells B.slots ∧ Post ⟨T.setVm vm₁, locs, cells, slots⟩ argsL.toArray v B ∧
      ∀ target, Steps p.tables e below (B.U.setTop { g with pc := g.pc + 3, stack := v.toList ++ rest }) target → Steps p.tables e below (T.setTop g) target := by
  obtain ⟨mk, methM, cM, hnamed, hmethM, -, -, -, -, -, -, hsigM⟩ := Cond.codeWith_spec hcode
  have hstatic : methM.isStatic = true := Cond.static_spec hnamed hmethM hstat
  obtain ⟨kP, hkP, -⟩ := className_of_methodNamed hnamed
  have hinitP : kP.init = .initialized := Cond.initialized_spec (findClass_of_methodNamed hnamed) hkP hinit
  obtain ⟨vm₁, X₁, hstep₁⟩ := X.invokestatic hexec hown hlink hnamed hmethM hstatic hkP hinitP hy (g := g) hg (argsL := argsL) (rest := rest) (hlen _ hsigM) hstack hdg
  obtain ⟨v, B, X', hpost, hsteps⟩ := hK m meth c ⟨T.setVm vm₁, locs, cells, slots⟩ { g with stack := rest } (.invokestatic index) mk argsL.toArray X₁ hg hsize hdg hW (X₁.named hnamed) (hpre vm₁ X₁.warmed)
  exact ⟨v, vm₁, B, X₁.warmed, X', hpost, fun target h => hstep₁ _ fun acts => by rw [doInvoke_state]; exact hsteps.trans h⟩
theorem vx_runSW {y : MethodName} {bytes cc : ByteArray} {maxL nL mc ms n index : Nat} {ret : Option FieldType} {hh : List (Nat × Nat × Nat × Nat)} {ws : List Cond} {rm : Room} {Pc : Array Value → State → Prop} {Qc : Array Value → State → Outcome → State → Prop} {free : Addr → Prop} {Ts : List Cond} {own : String} {As rest : List Value} {g : JFrame}
    (S : CallFix p m c cc nL s args Ts own) (hM : Met l y ws rm Pc Qc mc ms free) (cw : vx_CSW R s args own index y bytes maxL ret hh ws rm mc ms n) (hp : PreS s H Pc As)
    (hg : g.method = m) (hn : As.length = n) (hsize : g.locals.size = nL) (hstack : g.stack = As.reverse ++ rest) (hW : 2 * g.monitorRoom + (rest.map fun v => v.category).sum ≤ 8) (hdg : decode cc g.pc = .ok (.invokestatic index, 3)) (hf : cells + mc ≤ R.cells ∧ slots + ms ≤ R.slots) :
    va_Run p l e R s m args below meth c H locs cells slots mc ms g rest (Qc As.toArray) (free) := by
  obtain ⟨⟨hrc, hrs, hfr, hlo, hws, hcw⟩, hcode, hini, hy, hlen, hl, hstt⟩ := cw
  have hK : Back l R p e below s args y 3 8 (PreOf R mc ms Pc) (PostOf Qc mc ms free) := va_backW (hh := hh) (bytes := bytes) (maxL := maxL) (ret := ret) hM hp.1 hrc hrs hfr hlo hws hcw (fun a' U hW => word_at hW (Or.inl (by first | rfl | simp [Cond.onTables, Cond.keeps, Cond.steady])) hini)
  obtain ⟨hx, hb, hml, ho, -⟩ := S
  intro T hT X
  obtain ⟨v, vm₁, ⟨U', l2, c2, s2⟩, hW₁, X', ⟨g', mk, t, L, e1, e2, hq, h1, hL, h2, h3⟩, st⟩ := vx_callSW X hx (hh := hh) (bytes := bytes) (maxL := maxL) (ret := ret) ho hl hstt hini hcode hy hK hg (hsize.trans hml.symm) (argsL := As) (rest := rest) (fun sig h => hn.trans (hlen sig h)) hstack hW (by rw [hb]; exact hdg)
    (fun vm₁ hW₁ => ⟨hf.1, hf.2, hp.2 (T.setVm vm₁) hT hW₁⟩)
  dsimp only [Pt.U, Pt.locs, Pt.cells, Pt.slots] at X' e1 e2 h1 h2 h3 st
  subst h1; subst h2; subst h3
  exact ⟨v, (T.setVm vm₁).calling g' mk As.toArray, t, U', L, hT, X', hL, e1, e2, hq, st⟩
/-- not caught here, past rows that name other classes: it goes on to the caller -/
theorem vx_outP {p : Program} {l : Launch} {e : Env} {R : Room} {s : State} {m : MethodId} {args : Array Value} {below : List Frame} {meth : Method} {c : Code} {H : Heap} {locs : List Loc} {cells slots : Nat} {free : Addr → Prop} {ls : Array Slot} {rest : List Value} {Qc : Array Value → State → Outcome → State → Prop} {XC : String → State → State → Prop}
    {pc : Nat} {own E : String} {ce : Cell} {q : Addr} {mc ms : Nat} (hown : s.vm.findClass own = some m.cls) (hlocks : meth.locks = false)
    (hpass : ∀ z ∈ c.exceptionTable.toList, covers z pc = false ∨ (z.catchType ≠ 0 ∧ ∃ nm : String, (Cond.classLink own z.catchType nm).before args s = true ∧ va_Nc E nm s)) (hcell : H[q]? = some ce) (hv : ce.vm = .none) (hcl : s.vm.findClass E = some ce.cls)
    (hx : ∀ t : State, t.heap = H → s.vm.Alike t.vm → XC E s t) (hf : ∀ z ∈ locs, free z.base) (hc : cells ≤ mc) (hs : slots ≤ ms) :
    vx_W p l e R s m args below meth c H locs cells slots (vx_MQ below Qc XC args s mc ms free) (F0 m pc ls rest) q := by
  intro T hT X
  have hpl : e.platform.magicAccessors = ({} : Platform).magicAccessors := by rw [X.admits.platform]
  obtain ⟨vm', hW', X', st⟩ := X.outThrough hlocks q (g := F0 m pc ls rest) rfl rfl rfl (cell := ce) (by rw [hT]; exact hcell) (by rw [hv]; rfl)
    (by obtain ⟨k9, h9, -⟩ := Vm.findClass_spec hcl; exact ⟨k9, h9⟩) (fun z hz => by
      rcases hpass z hz with h | ⟨hz0, nm, hl1, hn1⟩
      · exact Or.inl h
      · obtain ⟨c6, hc6, hcl6⟩ := Cond.classLink_spec hown hl1 e.platform hpl
        obtain ⟨a8, b8, h1, h2, h3⟩ := hn1
        cases Option.some.inj (h1.symm.trans hcl)
        cases Option.some.inj (h2.symm.trans hc6)
        exact Or.inr ⟨hz0, _, hcl6, h3⟩)
  obtain ⟨g₀, hfr⟩ := X'.frames_eq
  have hcell9 : ((T.setVm vm').setFrames (.throwing q :: below)).heap[q]? = some ce := by
    show T.heap[q]? = some ce
    rw [hT]; exact hcell
  have hend : Ended ((T.setVm vm').setFrames (.throwing q :: below)) below (.threw q) := State.frames_setFrames _ (State.cur_lt_of_frames hfr)
  refine ⟨(T.setVm vm').setFrames (.throwing q :: below), ?_, .threw q, X'.here.running, hend, Or.inr ⟨q, rfl, E, ce, locs, hx _ hT (X'.ends _).1.alike, hcell9, hv, hcl, (X'.ends _).1, (X'.ends _).2.mono hc hs, hf⟩⟩
  rw [X.pushThrowing_eq]
  exact st
/-- a thing of a world lies in the heap -/
theorem vx_lt {D : va_G} {cl : List vw_C} {ws : va_W} {H1 : Heap} (h : va_P D cl ws H1) {k : Nat} {q : Nat × va_E} (hk : ws[k]? = some q) : q.1 < H1.size := (h k q hk).lt
end VXS
/-! ===== END ===== -/
/-! ===== BEGIN methods with a table of their own: called by a name, returning or throwing ===== -/
section VXH
/-! vx_backW, vx_callVX, vx_callSX, vx_callVW, vx_runVW, vx_runVX, vx_runSX, vx_ofWH follow the same proofs as their sisters above (Free/Laws.lean, Shelf42/LK1.lean); vx_outP calls Shelf42/NT130.lean (outThrough). -/
section
variable {l : Launch} {R : Room} {p : Program} {e : Env} {below : List Frame} {s : State} {sargs : Array Value} {y : MethodName} {len W9 : Nat}
theorem vx_backW {ws : List Cond} {rm : Room} {Pc : Array Value → State → Prop} {Qc : Array Value → State → Outcome → State → Prop} {XC : String → State → State → Prop} {mc ms : Nat} {free : Addr → Prop} {bytes : ByteArray} {maxL : Nat} {ret : Option FieldType} {hh : List (Nat × Nat × Nat × Nat)}
    (hM : vx_Met l y ws rm Pc Qc XC mc ms free) (hblind : FrameBlind Pc) (hrc : rm.cells = mc) (hrs : rm.slots = ms)
    (hframes : rm.frames + 1 ≤ R.frames) (hlocals : W9 + (maxL + 11) + rm.locals ≤ R.locals)
    (hws : ∀ w ∈ ws, ∀ a' U, s.WarmedH U.vm → w.before a' U = true) (hcode : Cond.codeWith y bytes maxL ret hh ∈ ws) (hinit : ∀ a' U, s.WarmedH U.vm → (Cond.initialized y.cls).before a' U = true) :
    vx_Back l R p e below s sargs y len W9 (PreOf R mc ms Pc) (PostOf Qc mc ms free) (vx_Post XC mc ms free) := by
  intro m meth c A g ig mk a X hg hsize hdg hW hn hp
  have h1 : (headSpec ws rm).pre.before a A.U = true := atoms_intro fun w hw => hws w hw _ _ X.warmed
  have h2 : (Cond.codeWith y bytes maxL ret hh).before a A.U = true := hws _ hcode _ _ X.warmed
  have h3 : (Cond.initialized y.cls).before a A.U = true := hinit _ _ X.warmed
  have h4 : A.cells + (headSpec ws rm).room.cells ≤ R.cells := by rw [show (headSpec ws rm).room.cells = mc from hrc]; exact hp.1
  have h5 : A.slots + (headSpec ws rm).room.slots ≤ R.slots := by rw [show (headSpec ws rm).room.slots = ms from hrs]; exact hp.2.1
  have hPc : Pc a (A.U.calling g mk a) := hblind _ _ _ _ hp.2.2
  obtain ⟨U, Ls, c0, s0⟩ := A
  dsimp only [Pt.U, Pt.locs, Pt.cells, Pt.slots] at h1 h2 h3 h4 h5 X hn hPc ⊢
  obtain ⟨m9, methY, cY, hn9, hmY, hcY, -, hlY, -⟩ := Cond.codeWith_spec h2
  cases Option.some.inj (hn9.symm.trans hn)
  obtain ⟨kY, hkY, -⟩ := className_of_methodNamed hn
  have hinitY : kY.init = .initialized := Cond.initialized_spec (findClass_of_methodNamed hn) hkY h3
  have h : At U g.method c below := by rw [hg]; exact X.here
  have hlocals9 : W9 + (maxL + 11) + (headSpec ws rm).room.locals ≤ R.locals := hlocals
  have happ : (headSpec ws rm).appliesLoose y e.platform (U.calling g mk a) = true :=
    Spec.appliesLoose_calling (g := g) h hdg hn hkY hinitY
      (X.room_calling (g := g) (R' := (headSpec ws rm).room) hsize hmY hcY hframes (by rw [hlY]; omega) h4 h5) h1
  obtain ⟨mid, hmid⟩ := h.above
  have hfr : (U.setTop g).frames = (.java g :: mid) ++ below := by rw [State.frames_setTop' g h.top, hmid]; rfl
  obtain ⟨o, s₂, hsteps, -, hend, hq⟩ := Steps.callFree hM p X.admits X.cas X.clock (acts := []) hfr happ hPc trivial
  have hq' : vx_Q Qc XC mc ms free a (U.calling g mk a) o s₂ := hq
  rw [State.frames_setTop' g h.top] at hend
  obtain ⟨g₀, hg0⟩ := Option.isSome_iff_exists.mp h.top
  obtain ⟨r, hr⟩ := State.topJava?_eq_some.mp hg0
  have hr' : (({ U with heap := s₂.heap, slotsUsed := s₂.slotsUsed } : State).setVm s₂.vm).frames = .java g₀ :: r := hr
  rcases hq' with ⟨hqc, L, hfe, hL⟩ | ⟨q, rfl, E, ce, L, hx, hce, hcv, hcl, hW₂, hsm, hL⟩
  · obtain ⟨⟨v, rfl⟩, hW₂, e2, q2, q3, q4, q5, q6⟩ := id hfe
    have e3 : s₂ = ({ (U.calling g mk a).setFrames s₂.frames with heap := s₂.heap, slotsUsed := s₂.slotsUsed } : State).setVm s₂.vm := by
      have : s₂ = ({ s₂ with vm := (U.calling g mk a).vm } : State).setVm s₂.vm := rfl
      rw [e2] at this
      exact this
    obtain ⟨c₂, i₂, len₂, hc₂, hd₂, hf₂⟩ := hend
    have hW' : U.WarmedH s₂.vm := hW₂
    have hcc : c₂ = c := by
      have h1 : s₂.code? g.method = U.code? g.method := by
        rw [State.code?_eq, State.code?_eq, hW'.alike.method?]
      exact Option.some.inj (hc₂.symm.trans (h1.trans h.code))
    subst hcc
    have hlen : len₂ = len := by rw [hdg] at hd₂; cases hd₂; rfl
    subst hlen
    have hs₂ : s₂ = (({ U with heap := s₂.heap, slotsUsed := s₂.slotsUsed } : State).setVm s₂.vm).setTop { g with pc := g.pc + len₂, stack := v.toList ++ g.stack } := by
      refine e3.trans ?_
      rw [hf₂, State.calling_eq h.top, State.setFrames_setFrames, State.setTop_of_frames _ hr', hr]
      rfl
    have hsame : U.sameButNew ({ U with heap := s₂.heap, slotsUsed := s₂.slotsUsed } : State) L mc ms := by
      refine ⟨?_, q2, q3, q4, q5, q6⟩
      obtain ⟨t, ht, -⟩ := State.frames_cons hr
      show ({ U with heap := s₂.heap, slotsUsed := s₂.slotsUsed } : State) = { U.setFrames U.frames with heap := s₂.heap, slotsUsed := s₂.slotsUsed }
      rw [State.setFrames_self ht]
    subst hg
    refine Or.inl ⟨v, ⟨(({ U with heap := s₂.heap, slotsUsed := s₂.slotsUsed } : State).setVm s₂.vm), Ls ++ L, c0 + mc, s0 + ms⟩,
      ⟨X.admits, X.cas, X.clock, X.frames, X.room, X.hears, X.method, X.code, (X.here.setHeapUsed s₂.heap s₂.slotsUsed).setVm hW'.alike, X.tail, State.WarmedH.trans X.warmed hW', X.limits, X.bytes, X.same.trans (hsame.setVm s.vm)⟩,
      ⟨g, mk, s₂, L, rfl, rfl, hqc, rfl, hL, rfl, rfl⟩, ?_⟩
    show Steps p.tables e below _ ((({ U with heap := s₂.heap, slotsUsed := s₂.slotsUsed } : State).setVm s₂.vm).setTop { g with pc := g.pc + len₂, stack := v.toList ++ g.stack })
    rw [← hs₂]
    exact hsteps
  · obtain ⟨e2, q2, q3, q4, q5, q6⟩ := id hsm
    have e3 : s₂ = ({ (U.calling g mk a).setFrames s₂.frames with heap := s₂.heap, slotsUsed := s₂.slotsUsed } : State).setVm s₂.vm := by
      have : s₂ = ({ s₂ with vm := (U.calling g mk a).vm } : State).setVm s₂.vm := rfl
      rw [e2] at this
      exact this
    have hf₂ : s₂.frames = .throwing q :: .java g :: U.frames.tail := hend
    have hW' : U.WarmedH s₂.vm := hW₂
    have hs₂ : s₂ = ((({ U with heap := s₂.heap, slotsUsed := s₂.slotsUsed } : State).setVm s₂.vm).setTop g).pushFrame (.throwing q) := by
      refine e3.trans ?_
      rw [hf₂, State.calling_eq h.top, State.setFrames_setFrames, State.pushFrame, State.frames_setTop _ hr', State.setTop_of_frames _ hr', State.setFrames_setFrames, hr]
      rfl
    have hsame : U.sameButNew ({ U with heap := s₂.heap, slotsUsed := s₂.slotsUsed } : State) L mc ms := by
      refine ⟨?_, q2, q3, q4, q5, q6⟩
      obtain ⟨t, ht, -⟩ := State.frames_cons hr
      show ({ U with heap := s₂.heap, slotsUsed := s₂.slotsUsed } : State) = { U.setFrames U.frames with heap := s₂.heap, slotsUsed := s₂.slotsUsed }
      rw [State.setFrames_self ht]
    subst hg
    refine Or.inr ⟨q, ⟨(({ U with heap := s₂.heap, slotsUsed := s₂.slotsUsed } : State).setVm s₂.vm), Ls ++ L, c0 + mc, s0 + ms⟩,
      ⟨X.admits, X.cas, X.clock, X.frames, X.room, X.hears, X.method, X.code, (X.here.setHeapUsed s₂.heap s₂.slotsUsed).setVm hW'.alike, X.tail, State.WarmedH.trans X.warmed hW', X.limits, X.bytes, X.same.trans (hsame.setVm s.vm)⟩,
      ⟨g, mk, s₂, L, E, ce, rfl, rfl, hx, hce, hcv, hcl, rfl, hL, rfl, rfl⟩, ?_⟩
    show Steps p.tables e below _ (((({ U with heap := s₂.heap, slotsUsed := s₂.slotsUsed } : State).setVm s₂.vm).setTop g).pushFrame (.throwing q))
    rw [← hs₂]
    exact hsteps
end
variable {p : Program} {l : Launch} {e : Env} {R : Room} {s : State} {m : MethodId} {args : Array Value} {below : List Frame} {meth : Method} {c : Code} {T : State} {H : Heap} {locs : List Loc} {cells slots : Nat}
theorem vx_callVX (X : Stand p l e R s m args below meth c T locs cells slots) (hexec : p.tables.exec = Jvm.exec) {own C : String} {index : Nat} {y : MethodName} {bytes : ByteArray} {maxL : Nat} {ret : Option FieldType} {hh : List (Nat × Nat × Nat × Nat)}
    (hown : s.vm.findClass own = some m.cls) (hlink : (Cond.methodLink own index y).before args s = true) (hinst : (Cond.instanceMethod y).before args s = true) (hsel : (Cond.selects C y y).before args s = true)
    (hcode : (Cond.codeWith y bytes maxL ret hh).before args s = true) (hy : y.cls ≠ "java/lang/invoke/MethodHandle" ∧ y.cls ≠ "java/lang/invoke/VarHandle")
    {W9 : Nat} {Pre : Pt → Array Value → Prop} {Post : Pt → Array Value → Option Value → Pt → Prop} {PostX : Pt → Array Value → Addr → Pt → Prop} (hK : vx_Back l R p e below s args y 3 W9 Pre Post PostX)
    {b : Addr} {cellB : Cell} (hcell : T.heap[b]? = some cellB) (hobj : cellB.vm.isStatics = false) (hcls : s.vm.findClass C = some cellB.cls)
    {g : JFrame} (hg : g.method = m) (hsize : g.locals.size = c.maxLocals) {argsL rest : List Value} (hlen : ∀ sig, parseMethodDescriptor y.desc = some sig → argsL.length = sig.parameters.length)
    (hstack : g.stack = argsL.reverse ++ .ref b :: rest) (hW : 2 * g.monitorRoom + (rest.map fun v => v.category).sum ≤ W9) (hdg : decode c.code g.pc = .ok (.invokevirtual index, 3))
    (hpre : ∀ vm₁, s.WarmedH vm₁ → Pre ⟨T.setVm vm₁, locs, cells, slots⟩ (Value.ref b :: argsL).toArray) :
    (∃ (v : Option Value) (vm₁ : Vm) (B : Pt), s.WarmedH vm₁ ∧ Stand p l e R s m args below meth c B.U B.locs B.cells B.slots ∧ Post ⟨T.setVm vm₁, locs, cells, slots⟩ (Value.ref b :: argsL).toArray v B ∧
      ∀ target, Steps p.tables e below (B.U.setTop { g with pc := g.pc + 3, stack := v.toList ++ rest }) target → Steps p.tables e below (T.setTop g) target) ∨
    (∃ (q : Addr) (vm₁ : Vm) (B : Pt), s.WarmedH vm₁ ∧ Stand p l e R s m args below meth c B.U B.locs B.cells B.slots ∧ PostX ⟨T.setVm vm₁, locs, cells, slots⟩ (Value.ref b :: argsL).toArray q B ∧
      Steps p.tables e below (T.setTop g) ((B.U.setTop { g with stack := rest }).pushFrame (.throwing q))) := by
  obtain ⟨mk, methM, hnamed, hmethM, hstM, habM⟩ := Cond.instanceMethod_spec hinst
  obtain ⟨m8, methM', cM, hn8, hmethM', -, -, -, -, -, -, hsigM⟩ := Cond.codeWith_spec hcode
  cases Option.some.inj (hn8.symm.trans hnamed)
  cases hmethM.symm.trans hmethM'
  obtain ⟨c2, r2, m2, q1, q2, q3, q4, kP, hkP, hkPi⟩ := Cond.selects_spec hsel
  cases hcls.symm.trans q1
  cases (State.methodFound?_of_named hnamed hy).symm.trans q2
  cases hnamed.symm.trans q3
  have hselP : selectMethod e.platform s.vm cellB.cls mk = .method mk := by rw [Launch.admits_selectMethod X.admits]; exact q4
  obtain ⟨vm₁, X₁, hstep₁⟩ := X.invokevirtual hexec hown hlink hnamed hmethM hstM hkP hkPi hy (a := b) (cell := cellB) hcell
    (fun z h => by rw [h] at hobj; cases hobj) hselP hmethM habM hkP hkPi (g := g) hg (argsL := argsL) (rest := rest) (hlen _ hsigM) hstack hdg
  rcases hK m meth c ⟨T.setVm vm₁, locs, cells, slots⟩ { g with stack := rest } (.invokevirtual index) mk (Value.ref b :: argsL).toArray X₁ hg hsize hdg hW (X₁.named hnamed) (hpre vm₁ X₁.warmed) with ⟨v, B, X', hpost, hsteps⟩ | ⟨q, B, X', hpost, hsteps⟩
  · exact Or.inl ⟨v, vm₁, B, X₁.warmed, X', hpost, fun target h => hstep₁ _ fun acts => by rw [doInvoke_state]; exact hsteps.trans h⟩
  · exact Or.inr ⟨q, vm₁, B, X₁.warmed, X', hpost, hstep₁ _ fun acts => by rw [doInvoke_state]; exact hsteps⟩
theorem vx_callSX (X : Stand p l e R s m args below meth c T locs cells slots) (hexec : p.tables.exec = Jvm.exec) {own : String} {index : Nat} {y : MethodName} {bytes : ByteArray} {maxL : Nat} {ret : Option FieldType} {hh : List (Nat × Nat × Nat × Nat)}
    (hown : s.vm.findClass own = some m.cls) (hlink : (Cond.methodLink own index y).before args s = true) (hstat : (Cond.static y).before args s = true) (hinit : (Cond.initialized y.cls).before args s = true)
    (hcode : (Cond.codeWith y bytes maxL ret hh).before args s = true) (hy : y.cls ≠ "java/lang/invoke/MethodHandle" ∧ y.cls ≠ "java/lang/invoke/VarHandle")
    {W9 : Nat} {Pre : Pt → Array Value → Prop} {Post : Pt → Array Value → Option Value → Pt → Prop} {PostX : Pt → Array Value → Addr → Pt → Prop} (hK : vx_Back l R p e below s args y 3 W9 Pre Post PostX)
    {g : JFrame} (hg : g.method = m) (hsize : g.locals.size = c.maxLocals) {argsL rest : List Value} (hlen : ∀ sig, parseMethodDescriptor y.desc = some sig → argsL.length = sig.parameters.length)
    (hstack : g.stack = argsL.reverse ++ rest) (hW : 2 * g.monitorRoom + (rest.map fun v => v.category).sum ≤ W9) (hdg : decode c.code g.pc = .ok (.invokestatic index, 3))
    (hpre : ∀ vm₁, s.WarmedH vm₁ → Pre ⟨T.setVm vm₁, locs, cells, slots⟩ argsL.toArray) :
    (∃ (v : Option Value) (vm₁ : Vm) (B : Pt), s.WarmedH vm₁ ∧ Stand p l e R s m args below meth c B.U B.locs B.cells B.slots ∧ Post ⟨T.setVm vm₁, locs, cells, slots⟩ argsL.toArray v B ∧
      ∀ target, Steps p.tables e below (B.U.setTop { g with pc := g.pc + 3, stack := v.toList ++ rest }) target → Steps p.tables e below (T.setTop g) target) ∨
    (∃ (q : Addr) (vm₁ : Vm) (B : Pt), s.WarmedH vm₁ ∧ Stand p l e R s m args below meth c B.U B.locs B.cells B.slots ∧ PostX ⟨T.setVm vm₁, locs, cells, slots⟩ argsL.toArray q B ∧
      Steps p.tables e below (T.setTop g) ((B.U.setTop { g with stack := rest }).pushFrame (.throwing q))) := by
  obtain ⟨mk, methM, cM, hnamed, hmethM, -, -, -, -, -, -, hsigM⟩ := Cond.codeWith_spec hcode
  have hstatic : methM.isStatic = true := Cond.static_spec hnamed hmethM hstat
  obtain ⟨kP, hkP, -⟩ := className_of_methodNamed hnamed
  have hinitP : kP.init = .initialized := Cond.initialized_spec (findClass_of_methodNamed hnamed) hkP hinit
  obtain ⟨vm₁, X₁, hstep₁⟩ := X.invokestatic hexec hown hlink hnamed hmethM hstatic hkP hinitP hy (g := g) hg (argsL := argsL) (rest := rest) (hlen _ hsigM) hstack hdg
  rcases hK m meth c ⟨T.setVm vm₁, locs, cells, slots⟩ { g with stack := rest } (.invokestatic index) mk argsL.toArray X₁ hg hsize hdg hW (X₁.named hnamed) (hpre vm₁ X₁.warmed) with ⟨v, B, X', hpost, hsteps⟩ | ⟨q, B, X', hpost, hsteps⟩
  · exact Or.inl ⟨v, vm₁, B, X₁.warmed, X', hpost, fun target h => hstep₁ _ fun acts => by rw [doInvoke_state]; exact hsteps.trans h⟩
  · exact Or.inr ⟨q, vm₁, B, X₁.warmed, X', hpost, hstep₁ _ fun acts => by rw [doInvoke_state]; exact hsteps⟩
theorem vx_callVW (X : Stand p l e R s m args below meth c T locs cells slots) (hexec : p.tables.exec = Jvm.exec) {own C : String} {index : Nat} {y : MethodName} {bytes : ByteArray} {maxL : Nat} {ret : Option FieldType} {hh : List (Nat × Nat × Nat × Nat)}
    (hown : s.vm.findClass own = some m.cls) (hlink : (Cond.methodLink own index y).before args s = true) (hinst : (Cond.instanceMethod y).before args s = true) (hsel : (Cond.selects C y y).before args s = true)
    (hcode : (Cond.codeWith y bytes maxL ret hh).before args s = true) (hy : y.cls ≠ "java/lang/invoke/MethodHandle" ∧ y.cls ≠ "java/lang/invoke/VarHandle")
    {W9 : Nat} {Pre : Pt → Array Value → Prop} {Post : Pt → Array Value → Option Value → Pt → Prop} (hK : Back l R p e below s args y 3 W9 Pre Post)
    {b : Addr} {cellB : Cell} (hcell : T.heap[b]? = some cellB) (hobj : cellB.vm.isStatics = false) (hcls : s.vm.findClass C = some cellB.cls)
    {g : JFrame} (hg : g.method = m) (hsize : g.locals.size = c.maxLocals) {argsL rest : List Value} (hlen : ∀ sig, parseMethodDescriptor y.desc = some sig → argsL.length = sig.parameters.length)
    (hstack : g.stack = argsL.reverse ++ .ref b :: rest) (hW : 2 * g.monitorRoom + (rest.map fun v => v.category).sum ≤ W9) (hdg : decode c.code g.pc = .ok (.invokevirtual index, 3))
    (hpre : ∀ vm₁, s.WarmedH vm₁ → Pre ⟨T.setVm vm₁, locs, cells, slots⟩ (Value.ref b :: argsL).toArray) :
    ∃ (v : Option Value) (vm₁ : Vm) (B : Pt), s.WarmedH vm₁ ∧ Stand p l e R s m args below meth c B.U B.locs B.cells B.slots ∧ Post ⟨T.setVm vm₁, locs, cells, slots⟩ (Value.ref b :: argsL).toArray v B ∧
      ∀ target, Steps p.tables e below (B.U.setTop { g with pc := g.pc + 3, stack := v.toList ++ rest }) target → Steps p.tables e below (T.setTop g) target := by
  obtain ⟨mk, methM, hnamed, hmethM, hstM, habM⟩ := Cond.instanceMethod_spec hinst
  obtain ⟨m8, methM', cM, hn8, hmethM', -, -, -, -, -, -, hsigM⟩ := Cond.codeWith_spec hcode
  cases Option.some.inj (hn8.symm.trans hnamed)
  cases hmethM.symm.trans hmethM'
  obtain ⟨c2, r2, m2, q1, q2, q3, q4, kP, hkP, hkPi⟩ := Cond.selects_spec hsel
  cases hcls.symm.trans q1
  cases (State.methodFound?_of_named hnamed hy).symm.trans q2
  cases hnamed.symm.trans q3
  have hselP : selectMethod e.platform s.vm cellB.cls mk = .method mk := by rw [Launch.admits_selectMethod X.admits]; exact q4
  obtain ⟨vm₁, X₁, hstep₁⟩ := X.invokevirtual hexec hown hlink hnamed hmethM hstM hkP hkPi hy (a := b) (cell := cellB) hcell
    (fun z h => by rw [h] at hobj; cases hobj) hselP hmethM habM hkP hkPi (g := g) hg (argsL := argsL) (rest := rest) (hlen _ hsigM) hstack hdg
  obtain ⟨v, B, X', hpost, hsteps⟩ := hK m meth c ⟨T.setVm vm₁, locs, cells, slots⟩ { g with stack := rest } (.invokevirtual index) mk (Value.ref b :: argsL).toArray X₁ hg hsize hdg hW (X₁.named hnamed) (hpre vm₁ X₁.warmed)
  exact ⟨v, vm₁, B, X₁.warmed, X', hpost, fun target h => hstep₁ _ fun acts => by rw [doInvoke_state]; exact hsteps.trans h⟩
abbrev vx_CVW (R : Room) (s : State) (args : Array Value) (own C : String) (index : Nat) (y : MethodName) (bytes : ByteArray) (maxL : Nat) (ret : Option FieldType) (hh : List (Nat × Nat × Nat × Nat)) (ws : List Cond) (rm : Room) (mc ms n : Nat) : Prop :=
  (rm.cells = mc ∧ rm.slots = ms ∧ rm.frames + 1 ≤ R.frames ∧ 8 + (maxL + 11) + rm.locals ≤ R.locals ∧ (∀ w ∈ ws, ∀ (a' : Array Value) (U : State), s.WarmedH U.vm → w.before a' U = true) ∧ Cond.codeWith y bytes maxL ret hh ∈ ws) ∧
  (Cond.codeWith y bytes maxL ret hh).before args s = true ∧ (Cond.initialized y.cls).before args s = true ∧ (y.cls ≠ "java/lang/invoke/MethodHandle" ∧ y.cls ≠ "java/lang/invoke/VarHandle") ∧
  (∀ sig, parseMethodDescriptor y.desc = some sig → n = sig.parameters.length) ∧ (Cond.methodLink own index y).before args s = true ∧ (Cond.instanceMethod y).before args s = true ∧ (Cond.selects C y y).before args s = true
theorem vx_cwVW {own C : String} {index maxL mc ms : Nat} {y : MethodName} {bytes : ByteArray} {ret : Option FieldType} {hh : List (Nat × Nat × Nat × Nat)} {Ts ws ws' : List Cond} {rm : Room} (n : Nat) (ht : ∀ w ∈ Ts, w.before args s = true) (hT : GoodIn Ts (wsV own index C y ws)) (hw : ws = Cond.codeWith y bytes maxL ret hh :: ws') (hrc : rm.cells = mc) (hrs : rm.slots = ms)
    (hd : y.cls = C ∧ y.cls ≠ "java/lang/invoke/MethodHandle" ∧ y.cls ≠ "java/lang/invoke/VarHandle" ∧ (parseMethodDescriptor y.desc).map (fun d => d.parameters.length) = some n) (hR : rm.frames + 1 ≤ R.frames ∧ 8 + (maxL + 11) + rm.locals ≤ R.locals) :
    vx_CVW R s args own C index y bytes maxL ret hh ws rm mc ms n := by
  obtain ⟨hC, hd⟩ := hd
  subst hC
  have ok : ∀ w ∈ wsV own index y.cls y ws, w.before args s = true := fun w h => ht w (hT w h).1
  have hG : GoodIn Ts ws := fun w h => hT w (by unfold wsV; exact List.mem_append_right _ h)
  have hc : Cond.codeWith y bytes maxL ret hh ∈ ws := by rw [hw]; exact List.mem_cons_self
  refine ⟨⟨hrc, hrs, hR.1, hR.2, pay_in ht hG, hc⟩, ht _ (hG _ hc).1, ok _ (by simp [wsV]), ⟨hd.1, hd.2.1⟩, fun sig h => ?_, ok _ (by simp [wsV]), ok _ (by simp [wsV]), ok _ (by simp [wsV])⟩
  have h2 := hd.2.2
  rw [h] at h2
  exact (Option.some.inj h2).symm
theorem vx_runVW {y : MethodName} {bytes cc : ByteArray} {maxL nL mc ms n index : Nat} {ret : Option FieldType} {hh : List (Nat × Nat × Nat × Nat)} {ws : List Cond} {rm : Room} {Pc : Array Value → State → Prop} {Qc : Array Value → State → Outcome → State → Prop} {free : Addr → Prop} {Ts : List Cond} {own C : String} {b : Addr} {As rest : List Value} {g : JFrame}
    (S : CallFix p m c cc nL s args Ts own) (hM : Met l y ws rm Pc Qc mc ms free) (cw : vx_CVW R s args own C index y bytes maxL ret hh ws rm mc ms n) (hp : PreV s H C b Pc As)
    (hg : g.method = m) (hn : As.length = n) (hsize : g.locals.size = nL) (hstack : g.stack = As.reverse ++ .ref b :: rest) (hW : 2 * g.monitorRoom + (rest.map fun v => v.category).sum ≤ 8) (hdg : decode cc g.pc = .ok (.invokevirtual index, 3)) (hf : cells + mc ≤ R.cells ∧ slots + ms ≤ R.slots) :
    va_Run p l e R s m args below meth c H locs cells slots mc ms g rest (Qc (Value.ref b :: As).toArray) free := by
  obtain ⟨⟨hrc, hrs, hfr, hlo, hws, hcw⟩, hcode, hini, hy, hlen, hl, hin, hse⟩ := cw
  have hK : Back l R p e below s args y 3 8 (PreOf R mc ms Pc) (PostOf Qc mc ms free) := va_backW (hh := hh) (bytes := bytes) (maxL := maxL) (ret := ret) hM hp.1 hrc hrs hfr hlo hws hcw (fun a' U hW => word_at hW (Or.inl (by first | rfl | simp [Cond.onTables, Cond.keeps, Cond.steady])) hini)
  obtain ⟨hx, hb, hml, ho, -⟩ := S
  obtain ⟨-, ⟨cellB, hcB, hoB, hclB⟩, hPc⟩ := hp
  intro T hT X
  obtain ⟨v, vm₁, ⟨U', l2, c2, s2⟩, hW₁, X', ⟨g', mk, t, L, e1, e2, hq, h1, hL, h2, h3⟩, st⟩ := vx_callVW X hx (C := C) (hh := hh) (bytes := bytes) (maxL := maxL) (ret := ret) ho hl hin hse hcode hy hK (by rw [hT]; exact hcB) hoB hclB hg (hsize.trans hml.symm) (argsL := As) (rest := rest) (fun sig h => hn.trans (hlen sig h)) hstack hW (by rw [hb]; exact hdg)
    (fun vm₁ hW₁ => ⟨hf.1, hf.2, hPc (T.setVm vm₁) hT hW₁⟩)
  dsimp only [Pt.U, Pt.locs, Pt.cells, Pt.slots] at X' e1 e2 h1 h2 h3 st
  subst h1; subst h2; subst h3
  exact ⟨v, (T.setVm vm₁).calling g' mk (Value.ref b :: As).toArray, t, U', L, hT, X', hL, e1, e2, hq, st⟩
section
variable {y : MethodName} {bytes cc : ByteArray} {maxL nL mc ms n index : Nat} {ret : Option FieldType} {ws : List Cond} {rm : Room} {Pc : Array Value → State → Prop} {Qc : Array Value → State → Outcome → State → Prop} {XC : String → State → State → Prop} {free : Addr → Prop} {Ts : List Cond} {own C : String} {b : Addr} {As rest : List Value} {g : JFrame}
theorem vx_runVX {hh : List (Nat × Nat × Nat × Nat)} (S : CallFix p m c cc nL s args Ts own) (hM : vx_Met l y ws rm Pc Qc XC mc ms free) (cw : vx_CVW R s args own C index y bytes maxL ret hh ws rm mc ms n) (hp : PreV s H C b Pc As)
    (hg : g.method = m) (hn : As.length = n) (hsize : g.locals.size = nL) (hstack : g.stack = As.reverse ++ .ref b :: rest) (hW : 2 * g.monitorRoom + (rest.map fun v => v.category).sum ≤ 8) (hdg : decode cc g.pc = .ok (.invokevirtual index, 3)) (hf : cells + mc ≤ R.cells ∧ slots + ms ≤ R.slots) :
    vx_Run p l e R s m args below meth c H locs cells slots mc ms g rest (Qc (Value.ref b :: As).toArray) XC free := by
  obtain ⟨⟨hrc, hrs, hfr, hlo, hws, hcw⟩, hcode, hini, hy, hlen, hl, hin, hse⟩ := cw
  have hK : vx_Back l R p e below s args y 3 8 (PreOf R mc ms Pc) (PostOf Qc mc ms free) (vx_Post XC mc ms free) := vx_backW (hh := hh) (bytes := bytes) (maxL := maxL) (ret := ret) hM hp.1 hrc hrs hfr hlo hws hcw (fun a' U hW => word_at hW (Or.inl (by first | rfl | simp [Cond.onTables, Cond.keeps, Cond.steady])) hini)
  obtain ⟨hx, hb, hml, ho, -⟩ := S
  obtain ⟨-, ⟨cellB, hcB, hoB, hclB⟩, hPc⟩ := hp
  intro T hT X
  rcases vx_callVX X hx (C := C) (hh := hh) (bytes := bytes) (maxL := maxL) (ret := ret) ho hl hin hse hcode hy hK (by rw [hT]; exact hcB) hoB hclB hg (hsize.trans hml.symm) (argsL := As) (rest := rest) (fun sig h => hn.trans (hlen sig h)) hstack hW (by rw [hb]; exact hdg)
    (fun vm₁ hW₁ => ⟨hf.1, hf.2, hPc (T.setVm vm₁) hT hW₁⟩) with ⟨v, vm₁, ⟨U', l2, c2, s2⟩, hW₁, X', ⟨g', mk, t, L, e1, e2, hq, h1, hL, h2, h3⟩, st⟩ | ⟨q, vm₁, ⟨U', l2, c2, s2⟩, hW₁, X', ⟨g', mk, t, L, E, ce, e1, e2, hq, hce, hcv, hcl, h1, hL, h2, h3⟩, st⟩
  · dsimp only [Pt.U, Pt.locs, Pt.cells, Pt.slots] at X' e1 e2 h1 h2 h3 st
    subst h1; subst h2; subst h3
    exact Or.inl ⟨v, (T.setVm vm₁).calling g' mk (Value.ref b :: As).toArray, t, U', L, hT, X', hL, e1, e2, hq, st⟩
  · dsimp only [Pt.U, Pt.locs, Pt.cells, Pt.slots] at X' e1 e2 h1 h2 h3 st hcl
    subst h1; subst h2; subst h3
    exact Or.inr ⟨q, (T.setVm vm₁).calling g' mk (Value.ref b :: As).toArray, t, U', L, E, ce, hT, X', hL, e1, e2, hq, hce, hcv, vx_cls hW₁ hcl, st⟩
theorem vx_runSX {hh : List (Nat × Nat × Nat × Nat)} (S : CallFix p m c cc nL s args Ts own) (hM : vx_Met l y ws rm Pc Qc XC mc ms free) (cw : vx_CSW R s args own index y bytes maxL ret hh ws rm mc ms n) (hp : PreS s H Pc As)
    (hg : g.method = m) (hn : As.length = n) (hsize : g.locals.size = nL) (hstack : g.stack = As.reverse ++ rest) (hW : 2 * g.monitorRoom + (rest.map fun v => v.category).sum ≤ 8) (hdg : decode cc g.pc = .ok (.invokestatic index, 3)) (hf : cells + mc ≤ R.cells ∧ slots + ms ≤ R.slots) :
    vx_Run p l e R s m args below meth c H locs cells slots mc ms g rest (Qc As.toArray) XC free := by
  obtain ⟨⟨hrc, hrs, hfr, hlo, hws, hcw⟩, hcode, hini, hy, hlen, hl, hstt⟩ := cw
  have hK : vx_Back l R p e below s args y 3 8 (PreOf R mc ms Pc) (PostOf Qc mc ms free) (vx_Post XC mc ms free) := vx_backW (hh := hh) (bytes := bytes) (maxL := maxL) (ret := ret) hM hp.1 hrc hrs hfr hlo hws hcw (fun a' U hW => word_at hW (Or.inl (by first | rfl | simp [Cond.onTables, Cond.keeps, Cond.steady])) hini)
  obtain ⟨hx, hb, hml, ho, -⟩ := S
  intro T hT X
  rcases vx_callSX X hx (hh := hh) (bytes := bytes) (maxL := maxL) (ret := ret) ho hl hstt hini hcode hy hK hg (hsize.trans hml.symm) (argsL := As) (rest := rest) (fun sig h => hn.trans (hlen sig h)) hstack hW (by rw [hb]; exact hdg)
    (fun vm₁ hW₁ => ⟨hf.1, hf.2, hp.2 (T.setVm vm₁) hT hW₁⟩) with ⟨v, vm₁, ⟨U', l2, c2, s2⟩, hW₁, X', ⟨g', mk, t, L, e1, e2, hq, h1, hL, h2, h3⟩, st⟩ | ⟨q, vm₁, ⟨U', l2, c2, s2⟩, hW₁, X', ⟨g', mk, t, L, E, ce, e1, e2, hq, hce, hcv, hcl, h1, hL, h2, h3⟩, st⟩
  · dsimp only [Pt.U, Pt.locs, Pt.cells, Pt.slots] at X' e1 e2 h1 h2 h3 st
    subst h1; subst h2; subst h3
    exact Or.inl ⟨v, (T.setVm vm₁).calling g' mk As.toArray, t, U', L, hT, X', hL, e1, e2, hq, st⟩
  · dsimp only [Pt.U, Pt.locs, Pt.cells, Pt.slots] at X' e1 e2 h1 h2 h3 st hcl
    subst h1; subst h2; subst h3
    exact Or.inr ⟨q, (T.setVm vm₁).calling g' mk As.toArray, t, U', L, E, ce, hT, X', hL, e1, e2, hq, hce, hcv, vx_cls hW₁ hcl, st⟩
end
end VXH
theorem vx_ofWH {l : Launch} {y : MethodName} {ws ws' : List Cond} {rm : Room} {Pc : Array Value → State → Prop} {Qc : Array Value → State → Outcome → State → Prop} {XC : String → State → State → Prop} {mc ms : Nat} {free : Addr → Prop} {cc : ByteArray} {maxL : Nat} {ret : Option FieldType} {hh : List (Nat × Nat × Nat × Nat)}
    (hy : plainName y.cls = true) (hw : ws = Cond.codeWith y cc maxL ret hh :: ws')
    (body : ∀ p e s m args below meth c s₁, BodyLoose p l y (headSpec ws rm) cc maxL ret e s m args below meth c s₁ → c.maxLocals = maxL → Pc args s →
      W p l e (headSpec ws rm).room s m args below meth c s.heap [] 0 0 (vx_MQ below Qc XC args s mc ms free) (entryFrame m args maxL)) : vx_Met l y ws rm Pc Qc XC mc ms free := by
  refine MetFree.of_bodyS (code := cc) (maxLocals := maxL) (ret := ret) hy ?_ ?_
  · intro args s m h hn
    obtain ⟨m9, meth, c, hn9, h1, h2, h3, h4, -, h5, h6, -⟩ := Cond.codeWith_spec (atoms_spec (ws := ws) h _ (by rw [hw]; exact List.mem_cons_self))
    cases hn.symm.trans hn9
    exact ⟨meth, c, h1, h2, h3, h4, h5, h6⟩
  · intro p e s m args below meth c s₁ B hml hP _
    have hh0 : s₁.heap = s.heap := by rw [B.state]; rfl
    obtain ⟨t, a1, o, b1, b2, b3⟩ := body p e s m args below meth c s₁ B hml hP s₁ hh0 (Stand.of_body B)
    exact ⟨t, o, a1, b1, b2, b3⟩
/-! ===== END ===== -/
end
section
abbrev R_Paper : String := "PlaceFinder$Paper"
abbrev R_Place : String := "PlaceFinder$Place"
abbrev R_List : String := "PlaceFinder$PlaceList"
abbrev R_Search : String := "PlaceFinder$Search"
abbrev R_PF : String := "PlaceFinder"
abbrev R_Model : String := "PlaceFinderModel"
abbrev R_Law : String := "PlaceFinderLaw"
abbrev R_Long : String := "java/lang/Long"
abbrev R_Arrays : String := "java/util/Arrays"
def T_Paper : u_T := fun k => match k with
  | 0 => ("PlaceFinder$Paper", "width", "I", false)
  | 1 => ("PlaceFinder$Paper", "height", "I", false)
  | 2 => ("PlaceFinder$Paper", "words", "[J", true)
  | 3 => ("PlaceFinder$Paper", "sums", "[I", true)
  | _ => ("PlaceFinder$Paper", "summedRows", "I", false)
def t_Paper : Nat → FieldType := fun k => match k with
  | 0 => .int
  | 1 => .int
  | 2 => .array .long
  | 3 => .array .int
  | _ => .int
theorem n_Paper : ∀ a, a < 5 → ∀ b, b < 5 → a ≠ b → (T_Paper a).2.1 ≠ (T_Paper b).2.1 := by decide +kernel
theorem t_Paper_ok : ∀ k, k < 5 → parseFieldDescriptor (T_Paper k).2.2.1 = some (t_Paper k) := by decide +kernel
def T_Place : u_T := fun k => match k with
  | 0 => ("PlaceFinder$Place", "left", "I", true)
  | 1 => ("PlaceFinder$Place", "top", "I", true)
  | 2 => ("PlaceFinder$Place", "module", "I", true)
  | 3 => ("PlaceFinder$Place", "size", "I", true)
  | _ => ("PlaceFinder$Place", "quarter", "I", true)
def t_Place : Nat → FieldType := fun k => match k with
  | 0 => .int
  | 1 => .int
  | 2 => .int
  | 3 => .int
  | _ => .int
theorem n_Place : ∀ a, a < 5 → ∀ b, b < 5 → a ≠ b → (T_Place a).2.1 ≠ (T_Place b).2.1 := by decide +kernel
theorem t_Place_ok : ∀ k, k < 5 → parseFieldDescriptor (T_Place k).2.2.1 = some (t_Place k) := by decide +kernel
def T_List : u_T := fun k => match k with
  | 0 => ("PlaceFinder$PlaceList", "keys", "[I", true)
  | 1 => ("PlaceFinder$PlaceList", "wrongs", "[I", true)
  | _ => ("PlaceFinder$PlaceList", "count", "I", false)
def t_List : Nat → FieldType := fun k => match k with
  | 0 => .array .int
  | 1 => .array .int
  | _ => .int
theorem n_List : ∀ a, a < 3 → ∀ b, b < 3 → a ≠ b → (T_List a).2.1 ≠ (T_List b).2.1 := by decide +kernel
theorem t_List_ok : ∀ k, k < 3 → parseFieldDescriptor (T_List k).2.2.1 = some (t_List k) := by decide +kernel
def T_Search : u_T := fun k => match k with
  | 0 => ("PlaceFinder$Search", "paper", "LPlaceFinder$Paper;", true)
  | 1 => ("PlaceFinder$Search", "standing", "LPlaceFinder$PlaceList;", true)
  | 2 => ("PlaceFinder$Search", "limit", "I", false)
  | 3 => ("PlaceFinder$Search", "third", "I", false)
  | 4 => ("PlaceFinder$Search", "module", "I", false)
  | 5 => ("PlaceFinder$Search", "size", "I", false)
  | 6 => ("PlaceFinder$Search", "tooMany", "Z", false)
  | 7 => ("PlaceFinder$Search", "tileX", "I", false)
  | 8 => ("PlaceFinder$Search", "tileY", "I", false)
  | 9 => ("PlaceFinder$Search", "spreadX", "I", false)
  | 10 => ("PlaceFinder$Search", "spreadY", "I", false)
  | 11 => ("PlaceFinder$Search", "quarterFloors", "[I", true)
  | 12 => ("PlaceFinder$Search", "known", "[J", true)
  | _ => ("PlaceFinder$Search", "stamp", "I", false)
def t_Search : Nat → FieldType := fun k => match k with
  | 0 => .object "PlaceFinder$Paper"
  | 1 => .object "PlaceFinder$PlaceList"
  | 2 => .int
  | 3 => .int
  | 4 => .int
  | 5 => .int
  | 6 => .boolean
  | 7 => .int
  | 8 => .int
  | 9 => .int
  | 10 => .int
  | 11 => .array .int
  | 12 => .array .long
  | _ => .int
theorem n_Search : ∀ a, a < 14 → ∀ b, b < 14 → a ≠ b → (T_Search a).2.1 ≠ (T_Search b).2.1 := by decide +kernel
theorem t_Search_ok : ∀ k, k < 14 → parseFieldDescriptor (T_Search k).2.2.1 = some (t_Search k) := by decide +kernel
def T_PF : u_T := fun k => match k with
  | 0 => ("PlaceFinder", "search", "LPlaceFinder$Search;", true)
  | 1 => ("PlaceFinder", "paper", "LPlaceFinder$Paper;", true)
  | 2 => ("PlaceFinder", "standing", "LPlaceFinder$PlaceList;", true)
  | _ => ("PlaceFinder", "leading", "LPlaceFinder$PlaceList;", true)
def t_PF : Nat → FieldType := fun k => match k with
  | 0 => .object "PlaceFinder$Search"
  | 1 => .object "PlaceFinder$Paper"
  | 2 => .object "PlaceFinder$PlaceList"
  | _ => .object "PlaceFinder$PlaceList"
theorem n_PF : ∀ a, a < 4 → ∀ b, b < 4 → a ≠ b → (T_PF a).2.1 ≠ (T_PF b).2.1 := by decide +kernel
theorem t_PF_ok : ∀ k, k < 4 → parseFieldDescriptor (T_PF k).2.2.1 = some (t_PF k) := by decide +kernel
def T_Model : u_T := fun k => match k with
  | 0 => ("PlaceFinderModel", "thrown", "I", false)
  | 1 => ("PlaceFinderModel", "width", "I", false)
  | 2 => ("PlaceFinderModel", "height", "I", false)
  | 3 => ("PlaceFinderModel", "dark", "[Z", true)
  | 4 => ("PlaceFinderModel", "sums", "[I", true)
  | 5 => ("PlaceFinderModel", "runs", "[I", true)
  | 6 => ("PlaceFinderModel", "runsOf", "I", false)
  | 7 => ("PlaceFinderModel", "stand", "[I", true)
  | 8 => ("PlaceFinderModel", "stood", "I", false)
  | 9 => ("PlaceFinderModel", "found", "[I", true)
  | _ => ("PlaceFinderModel", "many", "I", false)
def t_Model : Nat → FieldType := fun k => match k with
  | 0 => .int
  | 1 => .int
  | 2 => .int
  | 3 => .array .boolean
  | 4 => .array .int
  | 5 => .array .int
  | 6 => .int
  | 7 => .array .int
  | 8 => .int
  | 9 => .array .int
  | _ => .int
theorem n_Model : ∀ a, a < 11 → ∀ b, b < 11 → a ≠ b → (T_Model a).2.1 ≠ (T_Model b).2.1 := by decide +kernel
theorem t_Model_ok : ∀ k, k < 11 → parseFieldDescriptor (T_Model k).2.2.1 = some (t_Model k) := by decide +kernel
abbrev vwCl : List vw_C := [(R_Paper, T_Paper, 5), (R_Place, T_Place, 5), (R_List, T_List, 3), (R_Search, T_Search, 14), (R_PF, T_PF, 4), (R_Model, T_Model, 11)]
/-- the words of the tables that a callee may be handed -/
def allw : List Cond := lw_tbl.filter goodWord
theorem allw_of {w : Cond} (h : w ∈ lw_tbl) (g : goodWord w = true) : w ∈ allw := List.mem_filter.mpr ⟨h, g⟩
theorem allw_in {w : Cond} (h : w ∈ allw) : w ∈ lw_tbl := (List.mem_filter.mp h).1
theorem allw_good {w : Cond} (h : w ∈ allw) : (w.onTables && w.keeps) = true ∨ ∃ ty, w = .arrayClass ty := good_of_word (List.mem_filter.mp h).2
def y_PF_init : MethodName := ⟨"PlaceFinder", "<init>", "()V"⟩
abbrev b_PF_init : ByteArray := prog_1_method_1_code
def y_PF_sheet : MethodName := ⟨"PlaceFinder", "sheet", "(II)V"⟩
abbrev b_PF_sheet : ByteArray := prog_1_method_2_code
def y_PF_turn : MethodName := ⟨"PlaceFinder", "turn", "(IIJ)I"⟩
abbrev b_PF_turn : ByteArray := prog_1_method_3_code
def y_PF_fill : MethodName := ⟨"PlaceFinder", "fill", "(IIIIZ)I"⟩
abbrev b_PF_fill : ByteArray := prog_1_method_4_code
def y_PF_draw : MethodName := ⟨"PlaceFinder", "draw", "(III)I"⟩
abbrev b_PF_draw : ByteArray := prog_1_method_5_code
def y_PF_dots : MethodName := ⟨"PlaceFinder", "dots", "(II)J"⟩
abbrev b_PF_dots : ByteArray := prog_1_method_6_code
def y_PF_find : MethodName := ⟨"PlaceFinder", "find", "(III)I"⟩
abbrev b_PF_find : ByteArray := prog_1_method_7_code
def y_PF_stood : MethodName := ⟨"PlaceFinder", "stood", "()I"⟩
abbrev b_PF_stood : ByteArray := prog_1_method_8_code
def y_PF_place : MethodName := ⟨"PlaceFinder", "place", "(II)I"⟩
abbrev b_PF_place : ByteArray := prog_1_method_9_code
def y_PF_modules : MethodName := ⟨"PlaceFinder", "modules", "(III)J"⟩
abbrev b_PF_modules : ByteArray := prog_1_method_10_code
def y_PF_isWithin : MethodName := ⟨"PlaceFinder", "isWithin", "(III)Z"⟩
abbrev b_PF_isWithin : ByteArray := prog_1_method_11_code
def y_PF_isMostlyDark : MethodName := ⟨"PlaceFinder", "isMostlyDark", "(LPlaceFinder$Place;II)Z"⟩
abbrev b_PF_isMostlyDark : ByteArray := prog_1_method_12_code
def y_PF_drawFixed : MethodName := ⟨"PlaceFinder", "drawFixed", "(LPlaceFinder$Place;)I"⟩
abbrev b_PF_drawFixed : ByteArray := prog_1_method_13_code
def y_PF_drawCorner : MethodName := ⟨"PlaceFinder", "drawCorner", "(LPlaceFinder$Place;II)I"⟩
abbrev b_PF_drawCorner : ByteArray := prog_1_method_14_code
def y_PF_drawModule : MethodName := ⟨"PlaceFinder", "drawModule", "(LPlaceFinder$Place;IIZ)I"⟩
abbrev b_PF_drawModule : ByteArray := prog_1_method_15_code
def y_Model_init : MethodName := ⟨"PlaceFinderModel", "<init>", "()V"⟩
abbrev b_Model_init : ByteArray := prog_7_method_1_code
def y_Model_thrown : MethodName := ⟨"PlaceFinderModel", "thrown", "()I"⟩
abbrev b_Model_thrown : ByteArray := prog_7_method_2_code
def y_Model_isOn : MethodName := ⟨"PlaceFinderModel", "isOn", "(JJ)Z"⟩
abbrev b_Model_isOn : ByteArray := prog_7_method_3_code
def y_Model_isDark : MethodName := ⟨"PlaceFinderModel", "isDark", "(II)Z"⟩
abbrev b_Model_isDark : ByteArray := prog_7_method_4_code
def y_Model_forget : MethodName := ⟨"PlaceFinderModel", "forget", "()V"⟩
abbrev b_Model_forget : ByteArray := prog_7_method_5_code
def y_Model_sheet : MethodName := ⟨"PlaceFinderModel", "sheet", "(II)V"⟩
abbrev b_Model_sheet : ByteArray := prog_7_method_6_code
def y_Model_turn : MethodName := ⟨"PlaceFinderModel", "turn", "(IIJ)I"⟩
abbrev b_Model_turn : ByteArray := prog_7_method_7_code
def y_Model_fill : MethodName := ⟨"PlaceFinderModel", "fill", "(IIIIZ)I"⟩
abbrev b_Model_fill : ByteArray := prog_7_method_8_code
def y_Model_dots : MethodName := ⟨"PlaceFinderModel", "dots", "(II)J"⟩
abbrev b_Model_dots : ByteArray := prog_7_method_9_code
def y_Model_side : MethodName := ⟨"PlaceFinderModel", "side", "(I)I"⟩
abbrev b_Model_side : ByteArray := prog_7_method_10_code
def y_Model_apart : MethodName := ⟨"PlaceFinderModel", "apart", "(II)I"⟩
abbrev b_Model_apart : ByteArray := prog_7_method_11_code
def y_Model_distance : MethodName := ⟨"PlaceFinderModel", "distance", "(IIII)I"⟩
abbrev b_Model_distance : ByteArray := prog_7_method_12_code
def y_Model_module : MethodName := ⟨"PlaceFinderModel", "module", "(III)I"⟩
abbrev b_Model_module : ByteArray := prog_7_method_13_code
def y_Model_blockX : MethodName := ⟨"PlaceFinderModel", "blockX", "(IIII)I"⟩
abbrev b_Model_blockX : ByteArray := prog_7_method_14_code
def y_Model_blockY : MethodName := ⟨"PlaceFinderModel", "blockY", "(IIII)I"⟩
abbrev b_Model_blockY : ByteArray := prog_7_method_15_code
def y_Model_isPlace : MethodName := ⟨"PlaceFinderModel", "isPlace", "(III)Z"⟩
abbrev b_Model_isPlace : ByteArray := prog_7_method_16_code
def y_Model_differ : MethodName := ⟨"PlaceFinderModel", "differ", "(IIIZZ)I"⟩
abbrev b_Model_differ : ByteArray := prog_7_method_17_code
def y_Model_draw : MethodName := ⟨"PlaceFinderModel", "draw", "(III)I"⟩
abbrev b_Model_draw : ByteArray := prog_7_method_18_code
def y_Model_add : MethodName := ⟨"PlaceFinderModel", "add", "()V"⟩
abbrev b_Model_add : ByteArray := prog_7_method_19_code
def y_Model_list : MethodName := ⟨"PlaceFinderModel", "list", "(I)V"⟩
abbrev b_Model_list : ByteArray := prog_7_method_20_code
def y_Model_darkIn : MethodName := ⟨"PlaceFinderModel", "darkIn", "(IIIIII)I"⟩
abbrev b_Model_darkIn : ByteArray := prog_7_method_21_code
def y_Model_least : MethodName := ⟨"PlaceFinderModel", "least", "(II)I"⟩
abbrev b_Model_least : ByteArray := prog_7_method_22_code
def y_Model_wrong : MethodName := ⟨"PlaceFinderModel", "wrong", "(IIIIII)I"⟩
abbrev b_Model_wrong : ByteArray := prog_7_method_23_code
def y_Model_look : MethodName := ⟨"PlaceFinderModel", "look", "(III)Z"⟩
abbrev b_Model_look : ByteArray := prog_7_method_24_code
def y_Model_enter : MethodName := ⟨"PlaceFinderModel", "enter", "(IIIIII)V"⟩
abbrev b_Model_enter : ByteArray := prog_7_method_25_code
def y_Model_isBefore : MethodName := ⟨"PlaceFinderModel", "isBefore", "(II)Z"⟩
abbrev b_Model_isBefore : ByteArray := prog_7_method_26_code
def y_Model_meet : MethodName := ⟨"PlaceFinderModel", "meet", "(II)Z"⟩
abbrev b_Model_meet : ByteArray := prog_7_method_27_code
def y_Model_leads : MethodName := ⟨"PlaceFinderModel", "leads", "(I)Z"⟩
abbrev b_Model_leads : ByteArray := prog_7_method_28_code
def y_Model_order : MethodName := ⟨"PlaceFinderModel", "order", "()V"⟩
abbrev b_Model_order : ByteArray := prog_7_method_29_code
def y_Model_find : MethodName := ⟨"PlaceFinderModel", "find", "(III)I"⟩
abbrev b_Model_find : ByteArray := prog_7_method_30_code
def y_Model_stood : MethodName := ⟨"PlaceFinderModel", "stood", "()I"⟩
abbrev b_Model_stood : ByteArray := prog_7_method_31_code
def y_Model_place : MethodName := ⟨"PlaceFinderModel", "place", "(II)I"⟩
abbrev b_Model_place : ByteArray := prog_7_method_32_code
def y_Model_modules : MethodName := ⟨"PlaceFinderModel", "modules", "(III)J"⟩
abbrev b_Model_modules : ByteArray := prog_7_method_33_code
def y_Paper_init : MethodName := ⟨"PlaceFinder$Paper", "<init>", "()V"⟩
abbrev b_Paper_init : ByteArray := prog_2_method_1_code
def y_Paper_renew : MethodName := ⟨"PlaceFinder$Paper", "renew", "(II)V"⟩
abbrev b_Paper_renew : ByteArray := prog_2_method_2_code
def y_Paper_bits : MethodName := ⟨"PlaceFinder$Paper", "bits", "(II)J"⟩
abbrev b_Paper_bits : ByteArray := prog_2_method_3_code
def y_Paper_flip : MethodName := ⟨"PlaceFinder$Paper", "flip", "(IIJ)I"⟩
abbrev b_Paper_flip : ByteArray := prog_2_method_4_code
def y_Paper_paint : MethodName := ⟨"PlaceFinder$Paper", "paint", "(IIIIZ)I"⟩
abbrev b_Paper_paint : ByteArray := prog_2_method_5_code
def y_Paper_countNow : MethodName := ⟨"PlaceFinder$Paper", "countNow", "(IIII)I"⟩
abbrev b_Paper_countNow : ByteArray := prog_2_method_6_code
def y_Paper_lowest : MethodName := ⟨"PlaceFinder$Paper", "lowest", "(I)J"⟩
abbrev b_Paper_lowest : ByteArray := prog_2_method_7_code
def y_Paper_addUp : MethodName := ⟨"PlaceFinder$Paper", "addUp", "()V"⟩
abbrev b_Paper_addUp : ByteArray := prog_2_method_8_code
def y_Paper_isLight : MethodName := ⟨"PlaceFinder$Paper", "isLight", "(I)Z"⟩
abbrev b_Paper_isLight : ByteArray := prog_2_method_9_code
def y_Paper_addUpRow : MethodName := ⟨"PlaceFinder$Paper", "addUpRow", "(I)V"⟩
abbrev b_Paper_addUpRow : ByteArray := prog_2_method_10_code
def y_Paper_countSummed : MethodName := ⟨"PlaceFinder$Paper", "countSummed", "(IIII)I"⟩
abbrev b_Paper_countSummed : ByteArray := prog_2_method_11_code
def y_Place_init : MethodName := ⟨"PlaceFinder$Place", "<init>", "(I)V"⟩
abbrev b_Place_init : ByteArray := prog_3_method_1_code
def y_Place_keyOf : MethodName := ⟨"PlaceFinder$Place", "keyOf", "(III)I"⟩
abbrev b_Place_keyOf : ByteArray := prog_3_method_2_code
def y_Place_leftOf : MethodName := ⟨"PlaceFinder$Place", "leftOf", "(I)I"⟩
abbrev b_Place_leftOf : ByteArray := prog_3_method_3_code
def y_Place_topOf : MethodName := ⟨"PlaceFinder$Place", "topOf", "(I)I"⟩
abbrev b_Place_topOf : ByteArray := prog_3_method_4_code
def y_Place_moduleOf : MethodName := ⟨"PlaceFinder$Place", "moduleOf", "(I)I"⟩
abbrev b_Place_moduleOf : ByteArray := prog_3_method_5_code
def y_Place_versionOf : MethodName := ⟨"PlaceFinder$Place", "versionOf", "(I)I"⟩
abbrev b_Place_versionOf : ByteArray := prog_3_method_6_code
def y_Place_quarterOf : MethodName := ⟨"PlaceFinder$Place", "quarterOf", "(I)I"⟩
abbrev b_Place_quarterOf : ByteArray := prog_3_method_7_code
def y_Place_sizeOf : MethodName := ⟨"PlaceFinder$Place", "sizeOf", "(I)I"⟩
abbrev b_Place_sizeOf : ByteArray := prog_3_method_8_code
def y_Place_haveCommonDot : MethodName := ⟨"PlaceFinder$Place", "haveCommonDot", "(II)Z"⟩
abbrev b_Place_haveCommonDot : ByteArray := prog_3_method_9_code
def y_Place_hasModule : MethodName := ⟨"PlaceFinder$Place", "hasModule", "(II)Z"⟩
abbrev b_Place_hasModule : ByteArray := prog_3_method_10_code
def y_Place_blockLeft : MethodName := ⟨"PlaceFinder$Place", "blockLeft", "(II)I"⟩
abbrev b_Place_blockLeft : ByteArray := prog_3_method_11_code
def y_Place_blockTop : MethodName := ⟨"PlaceFinder$Place", "blockTop", "(II)I"⟩
abbrev b_Place_blockTop : ByteArray := prog_3_method_12_code
def y_List_init : MethodName := ⟨"PlaceFinder$PlaceList", "<init>", "()V"⟩
abbrev b_List_init : ByteArray := prog_4_method_1_code
def y_List_clear : MethodName := ⟨"PlaceFinder$PlaceList", "clear", "()V"⟩
abbrev b_List_clear : ByteArray := prog_4_method_2_code
def y_List_add : MethodName := ⟨"PlaceFinder$PlaceList", "add", "(II)Z"⟩
abbrev b_List_add : ByteArray := prog_4_method_3_code
def y_List_takeLeaders : MethodName := ⟨"PlaceFinder$PlaceList", "takeLeaders", "(LPlaceFinder$PlaceList;)V"⟩
abbrev b_List_takeLeaders : ByteArray := prog_4_method_4_code
def y_List_leads : MethodName := ⟨"PlaceFinder$PlaceList", "leads", "(I)Z"⟩
abbrev b_List_leads : ByteArray := prog_4_method_5_code
def y_List_isBetter : MethodName := ⟨"PlaceFinder$PlaceList", "isBetter", "(II)Z"⟩
abbrev b_List_isBetter : ByteArray := prog_4_method_6_code
def y_Search_init : MethodName := ⟨"PlaceFinder$Search", "<init>", "()V"⟩
abbrev b_Search_init : ByteArray := prog_5_method_1_code
def y_Search_look : MethodName := ⟨"PlaceFinder$Search", "look", "(III)Z"⟩
abbrev b_Search_look : ByteArray := prog_5_method_2_code
def y_Search_siftFinders : MethodName := ⟨"PlaceFinder$Search", "siftFinders", "(IIIII)V"⟩
abbrev b_Search_siftFinders : ByteArray := prog_5_method_3_code
def y_Search_siftVersions : MethodName := ⟨"PlaceFinder$Search", "siftVersions", "(IIII)V"⟩
abbrev b_Search_siftVersions : ByteArray := prog_5_method_4_code
def y_Search_siftPlaces : MethodName := ⟨"PlaceFinder$Search", "siftPlaces", "(IIIIIII)V"⟩
abbrev b_Search_siftPlaces : ByteArray := prog_5_method_5_code
def y_Search_withCorner : MethodName := ⟨"PlaceFinder$Search", "withCorner", "(III)I"⟩
abbrev b_Search_withCorner : ByteArray := prog_5_method_6_code
def y_Search_judge : MethodName := ⟨"PlaceFinder$Search", "judge", "(I)V"⟩
abbrev b_Search_judge : ByteArray := prog_5_method_7_code
def y_Search_takeTile : MethodName := ⟨"PlaceFinder$Search", "takeTile", "(IIII)V"⟩
abbrev b_Search_takeTile : ByteArray := prog_5_method_8_code
def y_Search_isSingle : MethodName := ⟨"PlaceFinder$Search", "isSingle", "()Z"⟩
abbrev b_Search_isSingle : ByteArray := prog_5_method_9_code
def y_Search_isAlike : MethodName := ⟨"PlaceFinder$Search", "isAlike", "(III)Z"⟩
abbrev b_Search_isAlike : ByteArray := prog_5_method_10_code
def y_Search_isRight : MethodName := ⟨"PlaceFinder$Search", "isRight", "(I)Z"⟩
abbrev b_Search_isRight : ByteArray := prog_5_method_11_code
def y_Search_isLow : MethodName := ⟨"PlaceFinder$Search", "isLow", "(I)Z"⟩
abbrev b_Search_isLow : ByteArray := prog_5_method_12_code
def y_Search_finderX : MethodName := ⟨"PlaceFinder$Search", "finderX", "(I)I"⟩
abbrev b_Search_finderX : ByteArray := prog_5_method_13_code
def y_Search_finderY : MethodName := ⟨"PlaceFinder$Search", "finderY", "(I)I"⟩
abbrev b_Search_finderY : ByteArray := prog_5_method_14_code
def y_Search_cornerWrong : MethodName := ⟨"PlaceFinder$Search", "cornerWrong", "(III)I"⟩
abbrev b_Search_cornerWrong : ByteArray := prog_5_method_15_code
def y_Search_finderFloor : MethodName := ⟨"PlaceFinder$Search", "finderFloor", "(II)I"⟩
abbrev b_Search_finderFloor : ByteArray := prog_5_method_16_code
def y_Search_borderFloor : MethodName := ⟨"PlaceFinder$Search", "borderFloor", "(III)I"⟩
abbrev b_Search_borderFloor : ByteArray := prog_5_method_17_code
def y_Search_lineFloor : MethodName := ⟨"PlaceFinder$Search", "lineFloor", "(I)I"⟩
abbrev b_Search_lineFloor : ByteArray := prog_5_method_18_code
def y_Search_withLine : MethodName := ⟨"PlaceFinder$Search", "withLine", "(II)I"⟩
abbrev b_Search_withLine : ByteArray := prog_5_method_19_code
def y_Search_lineX : MethodName := ⟨"PlaceFinder$Search", "lineX", "(I)I"⟩
abbrev b_Search_lineX : ByteArray := prog_5_method_20_code
def y_Search_lineY : MethodName := ⟨"PlaceFinder$Search", "lineY", "(I)I"⟩
abbrev b_Search_lineY : ByteArray := prog_5_method_21_code
def y_Search_spotFloor : MethodName := ⟨"PlaceFinder$Search", "spotFloor", "(I)I"⟩
abbrev b_Search_spotFloor : ByteArray := prog_5_method_22_code
def y_Search_mostDark : MethodName := ⟨"PlaceFinder$Search", "mostDark", "(IIII)I"⟩
abbrev b_Search_mostDark : ByteArray := prog_5_method_23_code
def y_Search_leastDark : MethodName := ⟨"PlaceFinder$Search", "leastDark", "(IIII)I"⟩
abbrev b_Search_leastDark : ByteArray := prog_5_method_24_code
def y_Law_sheet : MethodName := ⟨"PlaceFinderLaw", "sheet", "(LPlaceFinder;II)I"⟩
abbrev b_Law_sheet : ByteArray := method_3_code
def y_Law_fill : MethodName := ⟨"PlaceFinderLaw", "fill", "(LPlaceFinder;IIIIZ[J)I"⟩
abbrev b_Law_fill : ByteArray := method_4_code
def y_Law_draw : MethodName := ⟨"PlaceFinderLaw", "draw", "(LPlaceFinder;III[J)I"⟩
abbrev b_Law_draw : ByteArray := method_5_code
def y_Law_find : MethodName := ⟨"PlaceFinderLaw", "find", "(LPlaceFinder;III[J)I"⟩
abbrev b_Law_find : ByteArray := method_6_code
def y_Law_place : MethodName := ⟨"PlaceFinderLaw", "place", "(LPlaceFinder;II[J)I"⟩
abbrev b_Law_place : ByteArray := method_7_code
def y_Law_modules : MethodName := ⟨"PlaceFinderLaw", "modules", "(LPlaceFinder;III[J)I"⟩
abbrev b_Law_modules : ByteArray := method_8_code
def y_Long_bitCount : MethodName := ⟨"java/lang/Long", "bitCount", "(J)I"⟩
abbrev b_Long_bitCount : ByteArray := prog_11_method_50_code
def y_Arrays_fillI : MethodName := ⟨"java/util/Arrays", "fill", "([II)V"⟩
abbrev b_Arrays_fillI : ByteArray := prog_17_method_103_code
def y_Arrays_fillJ : MethodName := ⟨"java/util/Arrays", "fill", "([JJ)V"⟩
abbrev b_Arrays_fillJ : ByteArray := prog_17_method_101_code
end
section
/-! numbers: an int and the whole number that it stands for -/
theorem ti_k {a : Int32} {z : Int} (h : a.toInt = z) : a.toInt = z := h
theorem ti_bm {x : Int} (h1 : -2147483648 ≤ x) (h2 : x < 2147483648) : x.bmod (2 ^ 32) = x := by
  apply Int.bmod_eq_of_le_mul_two <;> omega
theorem ti_add {a b : Int32} {x y : Int} (ha : a.toInt = x) (hb : b.toInt = y) (h1 : -2147483648 ≤ x + y) (h2 : x + y < 2147483648) : (a + b).toInt = x + y := by
  rw [Int32.toInt_add, ha, hb, ti_bm h1 h2]
theorem ti_sub {a b : Int32} {x y : Int} (ha : a.toInt = x) (hb : b.toInt = y) (h1 : -2147483648 ≤ x - y) (h2 : x - y < 2147483648) : (a - b).toInt = x - y := by
  rw [Int32.toInt_sub, ha, hb, ti_bm h1 h2]
theorem ti_mul {a b : Int32} {x y : Int} (ha : a.toInt = x) (hb : b.toInt = y) (h1 : -2147483648 ≤ x * y) (h2 : x * y < 2147483648) : (a * b).toInt = x * y := by
  rw [Int32.toInt_mul, ha, hb, ti_bm h1 h2]
theorem ti_neg {a : Int32} {x : Int} (ha : a.toInt = x) (h1 : -2147483648 ≤ -x) (h2 : -x < 2147483648) : (-a).toInt = -x := by
  rw [Int32.toInt_neg, ha, ti_bm h1 h2]
theorem ti_lt {a b : Int32} {x y : Int} (ha : a.toInt = x) (hb : b.toInt = y) : a < b ↔ x < y := by
  rw [Int32.lt_iff_toInt_lt, ha, hb]
theorem ti_le {a b : Int32} {x y : Int} (ha : a.toInt = x) (hb : b.toInt = y) : a ≤ b ↔ x ≤ y := by
  rw [Int32.le_iff_toInt_le, ha, hb]
theorem ti_eq {a b : Int32} {x y : Int} (ha : a.toInt = x) (hb : b.toInt = y) : a = b ↔ x = y := by
  rw [← Int32.toInt_inj, ha, hb]
theorem ti_max {a b : Int32} {x y : Int} (ha : a.toInt = x) (hb : b.toInt = y) : (if a < b then b else a).toInt = max x y := by
  by_cases h : a < b
  · rw [if_pos h, hb]; have := (ti_lt ha hb).mp h; omega
  · rw [if_neg h, ha]; have q : ¬ x < y := fun q => h ((ti_lt ha hb).mpr q)
    omega
theorem ti_min {a b : Int32} {x y : Int} (ha : a.toInt = x) (hb : b.toInt = y) : (if b < a then b else a).toInt = min x y := by
  by_cases h : b < a
  · rw [if_pos h, hb]; have := (ti_lt hb ha).mp h; omega
  · rw [if_neg h, ha]; have q : ¬ y < x := fun q => h ((ti_lt hb ha).mpr q)
    omega
theorem ti_abs {a : Int32} {x : Int} (ha : a.toInt = x) (h : -2147483648 < x) : (if 0 ≤ a then a else 0 - a).toInt = if 0 ≤ x then x else 0 - x := by
  have hz : (0 : Int32).toInt = 0 := by decide
  have hb := Int32.toInt_lt a
  by_cases q : 0 ≤ a
  · rw [if_pos q, if_pos ((ti_le hz ha).mp q), ha]
  · rw [if_neg q, if_neg (fun r => q ((ti_le hz ha).mpr r))]
    exact ti_sub hz ha (by omega) (by omega)
theorem ti_rng (a : Int32) : -2147483648 ≤ a.toInt ∧ a.toInt < 2147483648 := ⟨Int32.le_toInt a, Int32.toInt_lt a⟩
theorem vi_cl {a : Int32} {z : Int} (h : a.toInt = z) : a.toNatClampNeg = z.toNat := by rw [← h]; rfl
theorem vi_in {a : Int32} {z : Int} {n : Nat} (h : a.toInt = z) (h0 : 0 ≤ z) (h1 : z < n) : vp_in a n := vp_in_iff.mpr ⟨by rw [h]; exact h0, by rw [h]; exact h1⟩
theorem ti_div {a b : Int32} {x y : Int} (ha : a.toInt = x) (hb : b.toInt = y) (h0 : 0 ≤ x) (h1 : 0 < y) : (a / b).toInt = x / y := by
  have hn : b ≠ -1 := by
    intro q
    rw [q] at hb
    have z : (-1 : Int32).toInt = -1 := by decide
    omega
  rw [Int32.toInt_div_of_ne_right a b hn, ha, hb, Int.tdiv_eq_ediv_of_nonneg h0]
theorem ti_rem {a b : Int32} {x y : Int} (ha : a.toInt = x) (hb : b.toInt = y) (h0 : 0 ≤ x) (h1 : 0 < y) : (a - a / b * b).toInt = x % y := by
  have hd := ti_div ha hb h0 h1
  have hx := ti_rng a
  have e : x / y * y = x - x % y := by have := Int.emod_add_mul_ediv x y; rw [Int.mul_comm]; omega
  have p1 : 0 ≤ x % y := Int.emod_nonneg x (by omega)
  have p3 : 0 ≤ x / y * y := Int.mul_nonneg (Int.ediv_nonneg h0 (by omega)) (by omega)
  have hm : (a / b * b).toInt = x / y * y := ti_mul hd hb (by omega) (by omega)
  rw [ti_sub ha hm (by omega) (by omega)]; omega
/-! one cut, one loop: the goal behind is proved once for all ways that lead there -/
section cuts
variable {p : Program} {l : Launch} {e : Env} {R : Room} {s : State} {m : MethodId} {args : Array Value} {below : List Frame} {meth : Method} {c : Code} {H : Heap} {locs : List Loc} {cells slots : Nat} {Q : State → Prop} {g : JFrame}
theorem w_cut {I : Heap → List Loc → JFrame → Prop} (k : ∀ H' locs' g', I H' locs' g' → W p l e R s m args below meth c H' locs' cells slots Q g') (b : (∀ H' locs' g', I H' locs' g' → W p l e R s m args below meth c H' locs' cells slots Q g') → W p l e R s m args below meth c H locs cells slots Q g) : W p l e R s m args below meth c H locs cells slots Q g := b k
theorem w_cut0 {I : JFrame → Prop} (k : ∀ g', I g' → W p l e R s m args below meth c H locs cells slots Q g') (b : (∀ g', I g' → W p l e R s m args below meth c H locs cells slots Q g') → W p l e R s m args below meth c H locs cells slots Q g) : W p l e R s m args below meth c H locs cells slots Q g := b k
theorem w_loop {I : Nat → Heap → List Loc → JFrame → Prop} (step : ∀ n H' locs' g', I n H' locs' g' → (∀ n', n' < n → ∀ H2 locs2 g2, I n' H2 locs2 g2 → W p l e R s m args below meth c H2 locs2 cells slots Q g2) → W p l e R s m args below meth c H' locs' cells slots Q g') {n : Nat} (h : I n H locs g) : W p l e R s m args below meth c H locs cells slots Q g := by
  have key : ∀ n H' locs' g', I n H' locs' g' → W p l e R s m args below meth c H' locs' cells slots Q g' := by
    intro n
    induction n using Nat.strongRecOn with
    | _ n ih => intro H' locs' g' hI; exact step n H' locs' g' hI (fun n' hn H2 locs2 g2 h2 => ih n' hn H2 locs2 g2 h2)
  exact key n H locs g h
end cuts
/-! a callee that writes nothing: what the world holds, it holds behind the call -/
theorem ro_keep {D : va_G} {cl : List vw_C} {ws : va_W} {H H1 : Heap} (hP : va_P D cl ws H) (hk : ∀ q : Nat, q < H.size → ¬ False → H1[q]? = H[q]?) : va_P D cl ws H1 := hP.kept (fun k q h => hk q.1 (hP k q h).lt (fun f => f))
abbrev ro_B (D : va_G) (cl : List vw_C) (ws : va_W) (tys : List (ClassId × FieldType)) (U : State) : Prop := va_P D cl ws U.heap ∧ va_K D cl tys U
theorem ro_blind {av : List Value} {D : va_G} {cl : List vw_C} {ws : va_W} {tys : List (ClassId × FieldType)} : FrameBlind (va_Pc av (ro_B D cl ws tys)) := fun a U g mk q => ⟨q.1, q.2.1, va_K.moved (u := U) (U := U.calling g mk a) (Vm.Alike.refl U.vm) q.2.2⟩
theorem ro_pre {s : State} {H : Heap} {av : List Value} {D : va_G} {cl : List vw_C} {ws : va_W} {tys : List (ClassId × FieldType)} (hP : va_P D cl ws H) (hK : va_K D cl tys s) : ∀ U : State, U.heap = H → s.WarmedH U.vm → va_Pc av (ro_B D cl ws tys) av.toArray U := fun U hU hW => ⟨rfl, by rw [hU]; exact hP, va_K.moved hW.alike hK⟩
abbrev rw_B (D : va_G) (cl : List vw_C) (ws : va_W) (tys : List (ClassId × FieldType)) (sz : Nat) (U : State) : Prop := U.heap.size = sz ∧ va_P D cl ws U.heap ∧ va_K D cl tys U ∧ va_D (fun _ => True) ws
abbrev rw_E (D : va_G) (cl : List vw_C) (ws : va_W) (tys : List (ClassId × FieldType)) (A : Nat → Prop) (t : State) : Prop := va_P D cl ws t.heap ∧ va_K D cl tys t ∧ va_D A ws
theorem rw_blind {av : List Value} {D : va_G} {cl : List vw_C} {ws : va_W} {tys : List (ClassId × FieldType)} {sz : Nat} : FrameBlind (va_Pc av (rw_B D cl ws tys sz)) := fun a U g mk q => ⟨q.1, q.2.1, q.2.2.1, va_K.moved (u := U) (U := U.calling g mk a) (Vm.Alike.refl U.vm) q.2.2.2.1, q.2.2.2.2⟩
theorem rw_pre {s : State} {H : Heap} {av : List Value} {D : va_G} {cl : List vw_C} {ws : va_W} {tys : List (ClassId × FieldType)} {A : Nat → Prop} (hP : va_P D cl ws H) (hK : va_K D cl tys s) (hD : va_D A ws) : ∀ U : State, U.heap = H → s.WarmedH U.vm → va_Pc av (rw_B D cl ws tys H.size) av.toArray U := fun U hU hW => ⟨rfl, by rw [hU], by rw [hU]; exact hP, va_K.moved hW.alike hK, hD.weaken (fun _ _ _ _ => trivial)⟩
/-- an answer true or false -/
def isB (r : Int32) (P : Prop) : Prop := (r = 1 ∧ P) ∨ (r = 0 ∧ ¬ P)
theorem bi_z {v : Int32} {P : Prop} (h : isB v P) (c : v = 0) : ¬ P := by
  rcases h with ⟨e, _⟩ | ⟨_, q⟩
  · rw [e] at c; exact absurd c (by decide)
  · exact q
theorem bi_nz {v : Int32} {P : Prop} (h : isB v P) (c : ¬ v = 0) : P := by
  rcases h with ⟨_, q⟩ | ⟨e, _⟩
  · exact q
  · exact absurd e c
end
section
/-! how many dots are dark in a box -/
def rc (D : Int → Int → Bool) (x y : Int) : Nat → Int
  | 0 => 0
  | n + 1 => rc D x y n + (if D (x + n) y = true then 1 else 0)
def cn (D : Int → Int → Bool) (x y : Int) (w : Nat) : Nat → Int
  | 0 => 0
  | n + 1 => cn D x y w n + rc D x (y + n) w
def cI (D : Int → Int → Bool) (x y w h : Int) : Int := cn D x y w.toNat h.toNat
theorem rc_split (D : Int → Int → Bool) (x y : Int) (a b : Nat) : rc D x y (a + b) = rc D x y a + rc D (x + a) y b := by
  induction b with
  | zero => simp [rc]
  | succ b ih =>
    show rc D x y (a + b) + (if D (x + ((a + b : Nat) : Int)) y = true then 1 else 0) = rc D x y a + (rc D (x + a) y b + (if D (x + a + b) y = true then 1 else 0))
    rw [ih]
    have e : x + ((a + b : Nat) : Int) = x + a + b := by omega
    rw [e]; omega
theorem rc_nn (D : Int → Int → Bool) (x y : Int) (n : Nat) : 0 ≤ rc D x y n := by
  induction n with
  | zero => simp [rc]
  | succ n ih => simp only [rc]; split <;> omega
theorem rc_le (D : Int → Int → Bool) (x y : Int) (n : Nat) : rc D x y n ≤ n := by
  induction n with
  | zero => simp [rc]
  | succ n ih => simp only [rc]; split <;> omega
theorem cn_h (D : Int → Int → Bool) (x y : Int) (w a b : Nat) : cn D x y w (a + b) = cn D x y w a + cn D x (y + a) w b := by
  induction b with
  | zero => simp [cn]
  | succ b ih =>
    show cn D x y w (a + b) + rc D x (y + ((a + b : Nat) : Int)) w = cn D x y w a + (cn D x (y + a) w b + rc D x (y + a + b) w)
    rw [ih]
    have e : y + ((a + b : Nat) : Int) = y + a + b := by omega
    rw [e]; omega
theorem cn_w (D : Int → Int → Bool) (x y : Int) (a b h : Nat) : cn D x y (a + b) h = cn D x y a h + cn D (x + a) y b h := by
  induction h with
  | zero => simp [cn]
  | succ h ih => simp only [cn]; rw [ih, rc_split]; omega
theorem cn_nn (D : Int → Int → Bool) (x y : Int) (w h : Nat) : 0 ≤ cn D x y w h := by
  induction h with
  | zero => simp [cn]
  | succ h ih => simp only [cn]; have := rc_nn D x (y + h) w; omega
theorem cn_le (D : Int → Int → Bool) (x y : Int) (w h : Nat) : cn D x y w h ≤ w * h := by
  induction h with
  | zero => simp [cn]
  | succ h ih =>
    simp only [cn]; have := rc_le D x (y + h) w
    have e : (w : Int) * ((h + 1 : Nat) : Int) = w * h + w := by rw [Int.natCast_add, Int.mul_add]; simp
    omega
theorem cI_nn (D : Int → Int → Bool) (x y w h : Int) : 0 ≤ cI D x y w h := cn_nn _ _ _ _ _
theorem cI_w {D : Int → Int → Bool} {x y h : Int} (a b : Int) (ha : 0 ≤ a) (hb : 0 ≤ b) : cI D x y (a + b) h = cI D x y a h + cI D (x + a) y b h := by
  unfold cI
  have e : (a + b).toNat = a.toNat + b.toNat := by omega
  have e2 : ((a.toNat : Nat) : Int) = a := by omega
  rw [e, cn_w, e2]
theorem cI_h {D : Int → Int → Bool} {x y w : Int} (a b : Int) (ha : 0 ≤ a) (hb : 0 ≤ b) : cI D x y w (a + b) = cI D x y w a + cI D x (y + a) w b := by
  unfold cI
  have e : (a + b).toNat = a.toNat + b.toNat := by omega
  have e2 : ((a.toNat : Nat) : Int) = a := by omega
  rw [e, cn_h, e2]
theorem cI_le (D : Int → Int → Bool) (x y : Int) {w h : Int} (hw : 0 ≤ w) (hh : 0 ≤ h) : cI D x y w h ≤ w * h := by
  have := cn_le D x y w.toNat h.toNat
  have e1 : ((w.toNat : Nat) : Int) = w := by omega
  have e2 : ((h.toNat : Nat) : Int) = h := by omega
  rw [e1, e2] at this; exact this
theorem cI_0w (D : Int → Int → Bool) (x y : Int) {w : Int} (h : Int) (hw : w ≤ 0) : cI D x y w h = 0 := by
  have e1 : w.toNat = 0 := by omega
  unfold cI; rw [e1]
  have : ∀ n, cn D x y 0 n = 0 := by
    intro n; induction n with
    | zero => rfl
    | succ n ih => simp only [cn, ih, rc]; rfl
  exact this _
theorem cI_0h (D : Int → Int → Bool) (x y : Int) (w : Int) {h : Int} (hh : h ≤ 0) : cI D x y w h = 0 := by
  have e1 : h.toNat = 0 := by omega
  unfold cI; rw [e1]; rfl
/-- the four sums -/
theorem cI_four {D : Int → Int → Bool} {x y w h : Int} (hx : 0 ≤ x) (hy : 0 ≤ y) (hw : 0 ≤ w) (hh : 0 ≤ h) :
    cI D x y w h = cI D 0 0 (x + w) (y + h) - cI D 0 0 x (y + h) - cI D 0 0 (x + w) y + cI D 0 0 x y := by
  have h1 : cI D 0 0 (x + w) (y + h) = cI D 0 0 x (y + h) + cI D (0 + x) 0 w (y + h) := cI_w x w hx hw
  have h2 : cI D (0 + x) 0 w (y + h) = cI D (0 + x) 0 w y + cI D (0 + x) (0 + y) w h := cI_h y h hy hh
  have h3 : cI D 0 0 (x + w) y = cI D 0 0 x y + cI D (0 + x) 0 w y := cI_w x w hx hw
  have e1 : (0 : Int) + x = x := by omega
  have e2 : (0 : Int) + y = y := by omega
  rw [e1] at h1 h2 h3; rw [e2] at h2
  omega
/-- a box in a box: no more are dark in it, and no more light -/
theorem cI_in {D : Int → Int → Bool} {x y w h x' y' w' h' : Int} (a1 : x ≤ x') (a2 : x' + w' ≤ x + w) (a3 : 0 ≤ w') (b1 : y ≤ y') (b2 : y' + h' ≤ y + h) (b3 : 0 ≤ h') :
    cI D x' y' w' h' ≤ cI D x y w h ∧ cI D x y w h - cI D x' y' w' h' ≤ w * h - w' * h' := by
  have e1 : w = (x' - x) + (w' + (x + w - x' - w')) := by omega
  have e2 : h = (y' - y) + (h' + (y + h - y' - h')) := by omega
  have s1 : cI D x y w h = cI D x y (x' - x) h + cI D (x + (x' - x)) y (w' + (x + w - x' - w')) h := by
    conv => lhs; rw [e1]
    exact cI_w _ _ (by omega) (by omega)
  have s2 : cI D (x + (x' - x)) y (w' + (x + w - x' - w')) h = cI D (x + (x' - x)) y w' h + cI D (x + (x' - x) + w') y (x + w - x' - w') h := cI_w _ _ (by omega) (by omega)
  have s3 : cI D (x + (x' - x)) y w' h = cI D (x + (x' - x)) y w' (y' - y) + cI D (x + (x' - x)) (y + (y' - y)) w' (h' + (y + h - y' - h')) := by
    conv => lhs; rw [e2]
    exact cI_h _ _ (by omega) (by omega)
  have s4 : cI D (x + (x' - x)) (y + (y' - y)) w' (h' + (y + h - y' - h')) = cI D (x + (x' - x)) (y + (y' - y)) w' h' + cI D (x + (x' - x)) (y + (y' - y) + h') w' (y + h - y' - h') := cI_h _ _ (by omega) (by omega)
  have ex : x + (x' - x) = x' := by omega
  have ey : y + (y' - y) = y' := by omega
  rw [ex] at s1 s2 s3 s4; rw [ey] at s3 s4
  have n1 := cI_nn D x y (x' - x) h
  have n2 := cI_nn D (x' + w') y (x + w - x' - w') h
  have n3 := cI_nn D x' y w' (y' - y)
  have n4 := cI_nn D x' (y' + h') w' (y + h - y' - h')
  have hh : 0 ≤ h := by omega
  have l1 := cI_le D x y (w := x' - x) (h := h) (by omega) hh
  have l2 := cI_le D (x' + w') y (w := x + w - x' - w') (h := h) (by omega) hh
  have l3 := cI_le D x' y (w := w') (h := y' - y) (by omega) (by omega)
  have l4 := cI_le D x' (y' + h') (w := w') (h := y + h - y' - h') (by omega) (by omega)
  refine ⟨by omega, ?_⟩
  have m1 : (x' - x) * h + (x + w - x' - w') * h = w * h - w' * h := by
    rw [← Int.add_mul, ← Int.sub_mul]; congr 1; omega
  have m2 : w' * (y' - y) + w' * (y + h - y' - h') = w' * h - w' * h' := by
    rw [← Int.mul_add, ← Int.mul_sub]; congr 1; omega
  omega
theorem mul_b {a b n : Int} (h1 : 0 ≤ a) (h2 : a ≤ n) (h3 : 0 ≤ b) (h4 : b ≤ n) : a * b ≤ n * n := Int.mul_le_mul h2 h4 h3 (by omega)
/-- what countSummed answers -/
def cS (D : Int → Int → Bool) (W H x y w h : Int) : Int := if w ≤ 0 ∨ h ≤ 0 ∨ x < 0 ∨ y < 0 ∨ W - w < x ∨ H - h < y then 0 else cI D x y w h
theorem cS_out {D : Int → Int → Bool} {W H x y w h : Int} (q : w ≤ 0 ∨ h ≤ 0 ∨ x < 0 ∨ y < 0 ∨ W - w < x ∨ H - h < y) : cS D W H x y w h = 0 := if_pos q
theorem cS_in {D : Int → Int → Bool} {W H x y w h : Int} (q : ¬ (w ≤ 0 ∨ h ≤ 0 ∨ x < 0 ∨ y < 0 ∨ W - w < x ∨ H - h < y)) : cS D W H x y w h = cI D x y w h := if_neg q
theorem mul_b2 {a b p q : Int} (h1 : 0 ≤ a) (h2 : a ≤ p) (h3 : 0 ≤ b) (h4 : b ≤ q) : a * b ≤ p * q := Int.mul_le_mul h2 h4 h3 (by omega)
end
section
/-! bits of a long -/
def lb (x : Int64) (i : Nat) : Bool := x.toBitVec.getLsbD i
theorem lb_ext {x y : Int64} (h : ∀ i, i < 64 → lb x i = lb y i) : x = y := Int64.toBitVec_inj.mp (BitVec.eq_of_getLsbD_eq (fun i hi => h i hi))
theorem lb_big {x : Int64} {i : Nat} (h : 64 ≤ i) : lb x i = false := BitVec.getLsbD_of_ge _ _ h
theorem lb_or (x y : Int64) (i : Nat) : lb (x ||| y) i = (lb x i || lb y i) := by unfold lb; rw [Int64.toBitVec_or, BitVec.getLsbD_or]
theorem lb_and (x y : Int64) (i : Nat) : lb (x &&& y) i = (lb x i && lb y i) := by unfold lb; rw [Int64.toBitVec_and, BitVec.getLsbD_and]
theorem lb_xor (x y : Int64) (i : Nat) : lb (x ^^^ y) i = (lb x i ^^ lb y i) := by unfold lb; rw [Int64.toBitVec_xor, BitVec.getLsbD_xor]
theorem lb_0 (i : Nat) : lb 0 i = false := by show (0#64).getLsbD i = false; simp
theorem lb_m1 {i : Nat} (h : i < 64) : lb (-1) i = true := by
  have ha : (-1 : Int64).toBitVec = BitVec.allOnes 64 := by decide
  unfold lb; rw [ha, BitVec.getLsbD_allOnes]; simp [h]
theorem ti_nI {v : Int32} {k : Int} (hv : v.toInt = k) (h0 : 0 ≤ k) : v = nI k.toNat := by
  have hr := ti_rng v
  apply Int32.toInt_inj.mp
  rw [nI_toInt (by omega), hv]; omega
theorem lb_cnt : ∀ k, k < 64 → ((nI k).toInt64 &&& 63).toBitVec.smod 64 = BitVec.ofNat 64 k := by decide +kernel
theorem lb_cntu : ∀ k, k < 64 → ((nI k).toInt64.toUInt64 &&& Int64.toUInt64 63) = UInt64.ofNat k := by decide +kernel
theorem lb_shl {x : Int64} {v : Int32} {k : Int} (hv : v.toInt = k) (h0 : 0 ≤ k) (h1 : k < 64) {i : Nat} (hi : i < 64) : lb (x <<< (v.toInt64 &&& 63)) i = (decide (k.toNat ≤ i) && lb x (i - k.toNat)) := by
  rw [ti_nI hv h0]
  unfold lb
  rw [Int64.toBitVec_shiftLeft, lb_cnt k.toNat (by omega)]
  have hk : (BitVec.ofNat 64 k.toNat).toNat = k.toNat := by rw [BitVec.toNat_ofNat]; exact Nat.mod_eq_of_lt (by omega)
  rw [BitVec.shiftLeft_eq', hk, BitVec.getLsbD_shiftLeft]
  by_cases q : i < k.toNat
  · have : ¬ k.toNat ≤ i := by omega
    simp [q, this]
  · have : k.toNat ≤ i := by omega
    simp [q, this, hi]
theorem lb_ushr {x : Int64} {v : Int32} {k : Int} (hv : v.toInt = k) (h0 : 0 ≤ k) (h1 : k < 64) (i : Nat) : lb (x.toUInt64 >>> (v.toInt64.toUInt64 &&& Int64.toUInt64 63)).toInt64 i = lb x (k.toNat + i) := by
  rw [ti_nI hv h0, lb_cntu k.toNat (by omega)]
  have e : (x.toUInt64 >>> UInt64.ofNat k.toNat).toInt64.toBitVec = x.toBitVec >>> k.toNat := by
    apply BitVec.eq_of_toNat_eq
    show (x.toUInt64 >>> UInt64.ofNat k.toNat).toNat = _
    have h2 : (UInt64.ofNat k.toNat).toNat = k.toNat := by
      show (BitVec.ofNat 64 k.toNat).toNat = k.toNat
      rw [BitVec.toNat_ofNat]; exact Nat.mod_eq_of_lt (by omega)
    rw [UInt64.toNat_shiftRight, h2, Nat.mod_eq_of_lt (by omega), BitVec.toNat_ushiftRight]
    rfl
  unfold lb; rw [e, BitVec.getLsbD_ushiftRight]
theorem ti_shr {a b : Int32} {x : Int} {k : Nat} (ha : a.toInt = x) (hk : ((b &&& 31).toBitVec.smod 32).toNat = k) : (a >>> (b &&& 31)).toInt = x >>> k := by
  rw [pk_shr a (b &&& 31) k hk, ha]
theorem ti_shr6 {a : Int32} {x : Int} (ha : a.toInt = x) : (a >>> ((6 : Int32) &&& 31)).toInt = x / 64 := by
  rw [ti_shr ha (k := 6) (by decide), Int.shiftRight_eq_div_pow]; rfl
theorem ti_and {a b : Int32} {x : Int} (k : Nat) (ha : a.toInt = x) (h0 : 0 ≤ x) (hb : b.toBitVec.toNat = 2 ^ k - 1) (hk : k < 31) : (a &&& b).toInt = x % (2 ^ k : Nat) := by
  have hr := ti_rng a
  rw [ti_nI ha h0, pk_andN (by omega) k hb]
  have hlt : x.toNat % 2 ^ k < 2 ^ k := Nat.mod_lt _ (Nat.two_pow_pos k)
  have hp : 2 ^ k ≤ 2 ^ 30 := Nat.pow_le_pow_right (by decide) (by omega)
  rw [nI_toInt (by omega), Int.natCast_emod, Int.toNat_of_nonneg h0]
theorem ti_and63 {a : Int32} {x : Int} (ha : a.toInt = x) (h0 : 0 ≤ x) : (a &&& 63).toInt = x % 64 := ti_and 6 ha h0 (by decide) (by decide)
/-! the words that hold the dots -/
theorem D_f {D : Int → Int → Bool} {W H x y : Int} (hsup : ∀ x y, D x y = true → 0 ≤ x ∧ x < W ∧ 0 ≤ y ∧ y < H) (h : x < 0 ∨ W ≤ x ∨ y < 0 ∨ H ≤ y) : D x y = false := by
  cases q : D x y with
  | false => rfl
  | true => have := hsup x y q; omega
theorem bt_row {fw : Nat → Int64} {D : Int → Int → Bool} (hbits : ∀ x y, 0 ≤ x → x < 512 → 0 ≤ y → y < 512 → lb (fw (y * 8 + x / 64).toNat) (x % 64).toNat = D x y) {y k : Int} {j : Nat} (hy : 0 ≤ y) (hy2 : y < 512) (hk : 0 ≤ k) (hk2 : k < 8) (hj : j < 64) : lb (fw (y * 8 + k).toNat) j = D (k * 64 + j) y := by
  have t := hbits (k * 64 + j) y (by omega) (by omega) hy hy2
  have e1 : (k * 64 + (j : Int)) / 64 = k := by omega
  have e2 : ((k * 64 + (j : Int)) % 64).toNat = j := by omega
  rw [e1, e2] at t; exact t
theorem bits_A {v w : Int64} {D : Int → Int → Bool} {W H x y : Int} (hsup : ∀ x y, D x y = true → 0 ≤ x ∧ x < W ∧ 0 ≤ y ∧ y < H) (hW : W ≤ 512) (hw : ∀ j, j < 64 → lb w j = D (x / 64 * 64 + j) y) (e : ∀ i, lb v i = lb w ((x % 64).toNat + i)) (hx : 0 ≤ x) (hc : x % 64 = 0 ∨ 8 ≤ x / 64 + 1) : ∀ i, i < 64 → lb v i = D (x + i) y := by
  intro i hi
  rw [e i]
  by_cases q : (x % 64).toNat + i < 64
  · rw [hw _ q]; congr 1; omega
  · rw [lb_big (by omega), D_f hsup (by omega)]
theorem bits_B {v w u r : Int64} {D : Int → Int → Bool} {W H x y : Int} (hw : ∀ j, j < 64 → lb w j = D (x / 64 * 64 + j) y) (hu : ∀ j, j < 64 → lb u j = D ((x / 64 + 1) * 64 + j) y) (e : ∀ i, lb v i = lb w ((x % 64).toNat + i)) (e2 : ∀ i, i < 64 → lb r i = (lb v i || (decide ((64 - x % 64).toNat ≤ i) && lb u (i - (64 - x % 64).toNat)))) (hx : 0 ≤ x) (hc : ¬ x % 64 = 0) : ∀ i, i < 64 → lb r i = D (x + i) y := by
  intro i hi
  rw [e2 i hi, e i]
  by_cases q : (x % 64).toNat + i < 64
  · have : ¬ (64 - x % 64).toNat ≤ i := by omega
    rw [hw _ q]; simp only [this, decide_false, Bool.false_and, Bool.or_false]; congr 1; omega
  · have : (64 - x % 64).toNat ≤ i := by omega
    rw [lb_big (by omega), hu _ (by omega)]; simp only [this, decide_true, Bool.true_and, Bool.false_or]; congr 1; omega
theorem lo_all {k : Int} {i : Nat} (h : ¬ k < 64) (hi : i < 64) : lb (-1) i = decide ((i : Int) < k) := by
  rw [lb_m1 hi]; exact (decide_eq_true (by omega)).symm
theorem lb_lN {n i : Nat} (hi : i < 64) : lb (lN n) i = n.testBit i := by
  show (BitVec.ofNat 64 n).getLsbD i = _
  rw [BitVec.getLsbD_ofNat]; simp [hi]
theorem lN_bv (n : Nat) : (lN n).toBitVec = BitVec.ofNat 64 n := rfl
theorem lN_shl {a : Int32} {k : Int} (n : Nat) (h0 : a.toInt = k) (hk : 0 ≤ k) (h : k < 64) : lN n <<< (a.toInt64 &&& 63) = lN (n * 2 ^ k.toNat) := by
  rw [ti_nI h0 hk]
  apply Int64.toBitVec_inj.mp
  rw [Int64.toBitVec_shiftLeft, lb_cnt k.toNat (by omega), lN_bv, lN_bv]
  apply BitVec.eq_of_toNat_eq
  rw [BitVec.shiftLeft_eq', BitVec.toNat_shiftLeft, BitVec.toNat_ofNat, BitVec.toNat_ofNat, BitVec.toNat_ofNat, Nat.mod_eq_of_lt (show k.toNat < 2 ^ 64 by omega), Nat.shiftLeft_eq, Nat.mul_mod, Nat.mod_mod, ← Nat.mul_mod]
theorem lo_some {a : Int32} {k : Int} {i : Nat} (h0 : a.toInt = k) (hk : 0 ≤ k) (h : k < 64) (hi : i < 64) : lb ((1 : Int64) <<< (a.toInt64 &&& 63) - 1) i = decide ((i : Int) < k) := by
  have e : (1 : Int64) <<< (a.toInt64 &&& 63) = lN (2 ^ k.toNat) := by
    have := lN_shl 1 h0 hk h
    rw [Nat.one_mul] at this; exact this
  have p : 1 ≤ 2 ^ k.toNat := Nat.two_pow_pos _
  have e2 : lN (2 ^ k.toNat) - 1 = lN (2 ^ k.toNat - 1) := lN_sub (b := 1) p
  rw [e, e2, lb_lN hi, Nat.testBit_two_pow_sub_one]
  by_cases q : i < k.toNat
  · rw [decide_eq_true q, decide_eq_true (by omega)]
  · rw [decide_eq_false q, decide_eq_false (by omega)]
theorem ti_shk {a b : Int32} {x : Int} (k : Nat) (n : Int) (hk : ((b &&& 31).toBitVec.smod 32).toNat = k) (hn : ((2 ^ k : Nat) : Int) = n) (ha : a.toInt = x) : (a >>> (b &&& 31)).toInt = x / n := by
  rw [ti_shr ha hk, Int.shiftRight_eq_div_pow, ← hn]
theorem ti_andk {a b : Int32} {x : Int} (k : Nat) (n : Int) (hn : ((2 ^ k : Nat) : Int) = n) (ha : a.toInt = x) (h0 : 0 ≤ x) (hb : b.toBitVec.toNat = 2 ^ k - 1) (hk : k < 31) : (a &&& b).toInt = x % n := by
  rw [ti_and k ha h0 hb hk, hn]
theorem or_nI {a b k : Nat} (hb : b < 2 ^ k) : nI (a * 2 ^ k) ||| nI b = nI (a * 2 ^ k + b) := by
  have e : a * 2 ^ k ||| b = a * 2 ^ k + b := by rw [Nat.mul_comm, Nat.two_pow_add_eq_or_of_lt hb]
  apply Int32.toBitVec_inj.mp
  rw [Int32.toBitVec_or]
  show BitVec.ofNat 32 _ ||| BitVec.ofNat 32 _ = BitVec.ofNat 32 _
  rw [← BitVec.ofNat_or, e]
theorem key_of {a0 a1 a2 : Int32} {x y p : Int} (h0 : a0.toInt = x) (h1 : a1.toInt = y) (h2 : a2.toInt = p) (x0 : 0 ≤ x) (x1 : x < 512) (y0 : 0 ≤ y) (y1 : y < 512) (p0 : 0 ≤ p) (p1 : p < 8192) :
    (a1 <<< ((22 : Int32) &&& 31) ||| a0 <<< ((13 : Int32) &&& 31) ||| a2).toInt = y * 4194304 + x * 8192 + p := by
  rw [ti_nI h0 x0, ti_nI h1 y0, ti_nI h2 p0]
  rw [pk_shlN (n := y.toNat) ((22 : Int32) &&& 31) 22 (by decide) (by omega), pk_shlN (n := x.toNat) ((13 : Int32) &&& 31) 13 (by decide) (by omega)]
  have e1 : nI (y.toNat * 2 ^ 22) ||| nI (x.toNat * 2 ^ 13) = nI ((y.toNat * 512 + x.toNat) * 2 ^ 13) := by
    rw [or_nI (a := y.toNat) (k := 22) (by omega)]
    exact congrArg nI (by omega)
  rw [e1, or_nI (by omega), nI_toInt (by omega)]
  omega
/-- how long a key's place is, and whether two have a dot in common -/
def klen (K : Int) : Int := (K / 256 % 32) * (17 + 4 * (K / 4 % 64))
abbrev comm (A B : Int) : Prop := A / 8192 % 512 < B / 8192 % 512 + klen B ∧ B / 8192 % 512 < A / 8192 % 512 + klen A ∧ A / 4194304 % 512 < B / 4194304 % 512 + klen B ∧ B / 4194304 % 512 < A / 4194304 % 512 + klen A
def bA (S Q i j : Int) : Int := if Q = 0 then i else if Q = 1 then S - 1 - j else if Q = 2 then S - 1 - i else j
def bB (S Q i j : Int) : Int := if Q = 0 then j else if Q = 1 then i else if Q = 2 then S - 1 - j else S - 1 - i
end
section
/-! bounds over a tile -/
def sBnd (W H M S TX TY SX SY : Int) : Prop := 1 ≤ W ∧ W ≤ 512 ∧ 1 ≤ H ∧ H ≤ 512 ∧ 1 ≤ M ∧ M ≤ 16 ∧ 21 ≤ S ∧ S ≤ 177 ∧ 0 ≤ TX ∧ TX ≤ 512 ∧ 0 ≤ TY ∧ TY ≤ 512 ∧ 0 ≤ SX ∧ SX ≤ 512 ∧ 0 ≤ SY ∧ SY ≤ 512
theorem cS_max {D : Int → Int → Bool} {W H x y w h : Int} (a1 : 0 ≤ x) (a2 : 0 ≤ y) (a3 : 0 ≤ w) (a4 : 0 ≤ h) (a5 : w = 0 ∨ x + w ≤ W) (a6 : h = 0 ∨ y + h ≤ H) : cS D W H x y w h = cI D x y w h := by
  by_cases q : w ≤ 0
  · rw [cS_out (by omega), cI_0w D x y h q]
  · by_cases r : h ≤ 0
    · rw [cS_out (by omega), cI_0h D x y w r]
    · exact cS_in (by omega)
/-- r is no less than the dark dots of the box at any position of the tile; the number itself at a single one -/
def isMost (D : Int → Int → Bool) (SX SY x y w h r : Int) : Prop := (∀ dx dy, 0 ≤ dx → dx ≤ SX → 0 ≤ dy → dy ≤ SY → cI D (x + dx) (y + dy) w h ≤ r) ∧ (SX = 0 → SY = 0 → r = cI D x y w h) ∧ 0 ≤ r ∧ r ≤ w * h
def isLeast (D : Int → Int → Bool) (SX SY x y w h r : Int) : Prop := (∀ dx dy, 0 ≤ dx → dx ≤ SX → 0 ≤ dy → dy ≤ SY → r ≤ cI D (x + dx) (y + dy) w h) ∧ (SX = 0 → SY = 0 → r = cI D x y w h) ∧ -262144 ≤ r ∧ r ≤ w * h
theorem isMost_1 {D : Int → Int → Bool} {SX SY x y w h : Int} (q : SX = 0 ∧ SY = 0) (b : 1 ≤ w ∧ 1 ≤ h) : isMost D SX SY x y w h (cI D x y (w + SX) (h + SY)) := by
  obtain ⟨rfl, rfl⟩ := q
  rw [Int.add_zero, Int.add_zero]
  refine ⟨fun dx dy h1 h2 h3 h4 => ?_, fun _ _ => rfl, cI_nn _ _ _ _ _, cI_le _ _ _ (by omega) (by omega)⟩
  have e1 : dx = 0 := by omega
  have e2 : dy = 0 := by omega
  rw [e1, e2, Int.add_zero, Int.add_zero]; exact Int.le_refl _
theorem isMost_2 {D : Int → Int → Bool} {SX SY x y w h CW CH : Int} (a1 : 0 ≤ SX) (a2 : 0 ≤ SY) (b1 : 1 ≤ w) (b2 : 1 ≤ h) (kW : CW = max (w - SX) 0) (kH : CH = max (h - SY) 0) (q : ¬ (SX = 0 ∧ SY = 0)) :
    isMost D SX SY x y w h (min (cI D x y (w + SX) (h + SY)) (cI D (x + SX) (y + SY) CW CH + w * h - CW * CH)) := by
  have n1 := cI_nn D x y (w + SX) (h + SY)
  have n3 := cI_nn D (x + SX) (y + SY) CW CH
  have n4 := cI_le D (x + SX) (y + SY) (w := CW) (h := CH) (by omega) (by omega)
  have m5 : CW * CH ≤ w * h := Int.mul_le_mul (by omega) (by omega) (by omega) (by omega)
  refine ⟨fun dx dy h1 h2 h3 h4 => ?_, fun e1 e2 => absurd ⟨e1, e2⟩ q, by omega, by omega⟩
  have t := (cI_in (D := D) (x := x) (y := y) (w := w + SX) (h := h + SY) (x' := x + dx) (y' := y + dy) (w' := w) (h' := h) (by omega) (by omega) (by omega) (by omega) (by omega) (by omega)).1
  have u : cI D (x + dx) (y + dy) w h ≤ cI D (x + SX) (y + SY) CW CH + w * h - CW * CH := by
    by_cases c1 : SX < w
    · by_cases c2 : SY < h
      · have v := (cI_in (D := D) (x := x + dx) (y := y + dy) (w := w) (h := h) (x' := x + SX) (y' := y + SY) (w' := CW) (h' := CH) (by omega) (by omega) (by omega) (by omega) (by omega) (by omega)).2
        omega
      · have e : CH = 0 := by omega
        have v := cI_le D (x + dx) (y + dy) (w := w) (h := h) (by omega) (by omega)
        rw [e] at n3 ⊢; rw [Int.mul_zero]; omega
    · have e : CW = 0 := by omega
      have v := cI_le D (x + dx) (y + dy) (w := w) (h := h) (by omega) (by omega)
      rw [e] at n3 ⊢; rw [Int.zero_mul]; omega
  omega
theorem isLeast_1 {D : Int → Int → Bool} {SX SY x y w h : Int} (q : SX = 0 ∧ SY = 0) (b : 1 ≤ w ∧ 1 ≤ h) : isLeast D SX SY x y w h (cI D x y (w + SX) (h + SY)) := by
  obtain ⟨rfl, rfl⟩ := q
  rw [Int.add_zero, Int.add_zero]
  have n := cI_nn D x y w h
  refine ⟨fun dx dy h1 h2 h3 h4 => ?_, fun _ _ => rfl, by omega, cI_le _ _ _ (by omega) (by omega)⟩
  have e1 : dx = 0 := by omega
  have e2 : dy = 0 := by omega
  rw [e1, e2, Int.add_zero, Int.add_zero]; exact Int.le_refl _
theorem isLeast_2 {D : Int → Int → Bool} {SX SY x y w h C : Int} (a1 : 0 ≤ SX) (a2 : 0 ≤ SY) (b1 : 1 ≤ w) (b2 : 1 ≤ h) (b3 : w + SX ≤ 512) (b4 : h + SY ≤ 512) (hC : (w - SX ≤ 0 ∨ h - SY ≤ 0) ∧ C = 0 ∨ ¬ (w - SX ≤ 0 ∨ h - SY ≤ 0) ∧ C = cI D (x + SX) (y + SY) (w - SX) (h - SY)) (q : ¬ (SX = 0 ∧ SY = 0)) :
    isLeast D SX SY x y w h (max (cI D x y (w + SX) (h + SY) - ((w + SX) * (h + SY) - w * h)) C) := by
  have n1 := cI_nn D x y (w + SX) (h + SY)
  have l1 := cI_le D x y (w := w + SX) (h := h + SY) (by omega) (by omega)
  have m1 := mul_b (a := w + SX) (b := h + SY) (n := 512) (by omega) (by omega) (by omega) (by omega)
  have m2 := Int.mul_nonneg (show 0 ≤ w by omega) (show 0 ≤ h by omega)
  have hC2 : ∀ dx dy, 0 ≤ dx → dx ≤ SX → 0 ≤ dy → dy ≤ SY → C ≤ cI D (x + dx) (y + dy) w h := by
    intro dx dy h1 h2 h3 h4
    rcases hC with ⟨_, e⟩ | ⟨c, e⟩
    · rw [e]; exact cI_nn _ _ _ _ _
    · rw [e]; exact (cI_in (D := D) (x := x + dx) (y := y + dy) (w := w) (h := h) (x' := x + SX) (y' := y + SY) (w' := w - SX) (h' := h - SY) (by omega) (by omega) (by omega) (by omega) (by omega) (by omega)).1
  have c0 := hC2 0 0 (by omega) a1 (by omega) a2
  rw [Int.add_zero, Int.add_zero] at c0
  have l2 := cI_le D x y (w := w) (h := h) (by omega) (by omega)
  refine ⟨fun dx dy h1 h2 h3 h4 => ?_, fun e1 e2 => absurd ⟨e1, e2⟩ q, by omega, by omega⟩
  have t := (cI_in (D := D) (x := x) (y := y) (w := w + SX) (h := h + SY) (x' := x + dx) (y' := y + dy) (w' := w) (h' := h) (by omega) (by omega) (by omega) (by omega) (by omega) (by omega)).2
  have u := hC2 dx dy h1 h2 h3 h4
  omega
theorem sq_k (a M : Int) : a * M * (a * M) = a * a * (M * M) := by rw [Int.mul_assoc a M, Int.mul_left_comm M a M, Int.mul_assoc]
/-- the wrong dots of a corner's 7 times 7 modules -/
def w7 (D : Int → Int → Bool) (M x y : Int) : Int := 33 * (M * M) - cI D x y (7 * M) (7 * M) + 2 * cI D (x + M) (y + M) (5 * M) (5 * M) - 2 * cI D (x + 2 * M) (y + 2 * M) (3 * M) (3 * M)
theorem floor7 {D : Int → Int → Bool} {M SX SY x y a b c : Int} (h3 : isMost D SX SY (x + 2 * M) (y + 2 * M) (3 * M) (3 * M) a) (h5 : isLeast D SX SY (x + M) (y + M) (5 * M) (5 * M) b) (h7 : isMost D SX SY x y (7 * M) (7 * M) c) (hM : 1 ≤ M) :
    ∀ dx dy, 0 ≤ dx → dx ≤ SX → 0 ≤ dy → dy ≤ SY → 9 * M * M - a + max (b - a) 0 + max (24 * M * M - (c - b)) 0 ≤ w7 D M (x + dx) (y + dy) := by
  intro dx dy d1 d2 d3 d4
  have t3 := h3.1 dx dy d1 d2 d3 d4
  have t5 := h5.1 dx dy d1 d2 d3 d4
  have t7 := h7.1 dx dy d1 d2 d3 d4
  have x2 : x + 2 * M + dx = x + dx + 2 * M := by omega
  have y2 : y + 2 * M + dy = y + dy + 2 * M := by omega
  have x1 : x + M + dx = x + dx + M := by omega
  have y1 : y + M + dy = y + dy + M := by omega
  rw [x2, y2] at t3; rw [x1, y1] at t5
  have i3 := cI_in (D := D) (x := x + dx + M) (y := y + dy + M) (w := 5 * M) (h := 5 * M) (x' := x + dx + 2 * M) (y' := y + dy + 2 * M) (w' := 3 * M) (h' := 3 * M) (by omega) (by omega) (by omega) (by omega) (by omega) (by omega)
  have i5 := cI_in (D := D) (x := x + dx) (y := y + dy) (w := 7 * M) (h := 7 * M) (x' := x + dx + M) (y' := y + dy + M) (w' := 5 * M) (h' := 5 * M) (by omega) (by omega) (by omega) (by omega) (by omega) (by omega)
  have l3 := cI_le D (x + dx + 2 * M) (y + dy + 2 * M) (w := 3 * M) (h := 3 * M) (by omega) (by omega)
  have e3 : 3 * M * (3 * M) = 9 * (M * M) := sq_k 3 M
  have e5 : 5 * M * (5 * M) = 25 * (M * M) := sq_k 5 M
  have e7 : 7 * M * (7 * M) = 49 * (M * M) := sq_k 7 M
  have e9 : 9 * M * M = 9 * (M * M) := Int.mul_assoc _ _ _
  have e24 : 24 * M * M = 24 * (M * M) := Int.mul_assoc _ _ _
  unfold w7
  omega
/-- the dark dots of the light modules between a corner and the rest -/
def bd (D : Int → Int → Bool) (M k x y : Int) : Int := cI D (if k = 1 ∨ k = 2 then x - M else x + 7 * M) y M (7 * M) + cI D (if k = 1 ∨ k = 2 then x - M else x) (if 2 ≤ k then y - M else y + 7 * M) (8 * M) M
theorem bd_low {D : Int → Int → Bool} {M k SX SY x y a b zx mx zy : Int} (h1 : isLeast D SX SY zx y M (7 * M) a) (h2 : isLeast D SX SY mx zy (8 * M) M b) (ex : zx = if k = 1 ∨ k = 2 then x - M else x + 7 * M) (em : mx = if k = 1 ∨ k = 2 then x - M else x) (ey : zy = if 2 ≤ k then y - M else y + 7 * M) :
    ∀ dx dy, 0 ≤ dx → dx ≤ SX → 0 ≤ dy → dy ≤ SY → a + b ≤ bd D M k (x + dx) (y + dy) := by
  intro dx dy d1 d2 d3 d4
  have t1 := h1.1 dx dy d1 d2 d3 d4
  have t2 := h2.1 dx dy d1 d2 d3 d4
  unfold bd
  have f1 : zx + dx = if k = 1 ∨ k = 2 then x + dx - M else x + dx + 7 * M := by rw [ex]; split <;> omega
  have f2 : mx + dx = if k = 1 ∨ k = 2 then x + dx - M else x + dx := by rw [em]; split <;> omega
  have f3 : zy + dy = if 2 ≤ k then y + dy - M else y + dy + 7 * M := by rw [ey]; split <;> omega
  rw [f1] at t1; rw [f2, f3] at t2
  omega
/-- the wrong dots of a corner: 8 times 8 modules -/
def cW (D : Int → Int → Bool) (M k x y : Int) : Int := 33 * (M * M) + cI D (if k = 1 ∨ k = 2 then x - M else x) (if 2 ≤ k then y - M else y) (8 * M) (8 * M) - 2 * cI D x y (7 * M) (7 * M) + 2 * cI D (x + M) (y + M) (5 * M) (5 * M) - 2 * cI D (x + 2 * M) (y + 2 * M) (3 * M) (3 * M)
theorem cW_sum {D : Int → Int → Bool} {M k x y : Int} (hM : 1 ≤ M) : cW D M k x y = w7 D M x y + bd D M k x y := by
  unfold cW w7 bd
  by_cases r : k = 1 ∨ k = 2
  · rw [if_pos r, if_pos r]
    by_cases o : 2 ≤ k
    · rw [if_pos o, if_pos o]
      have s1 : cI D (x - M) (y - M) (8 * M) (M + 7 * M) = cI D (x - M) (y - M) (8 * M) M + cI D (x - M) (y - M + M) (8 * M) (7 * M) := cI_h _ _ (by omega) (by omega)
      have s2 : cI D (x - M) (y - M + M) (M + 7 * M) (7 * M) = cI D (x - M) (y - M + M) M (7 * M) + cI D (x - M + M) (y - M + M) (7 * M) (7 * M) := cI_w _ _ (by omega) (by omega)
      have e1 : M + 7 * M = 8 * M := by omega
      have e2 : y - M + M = y := by omega
      have e3 : x - M + M = x := by omega
      rw [e1] at s1 s2; rw [e2] at s1; rw [e2, e3] at s2
      omega
    · rw [if_neg o, if_neg o]
      have s1 : cI D (x - M) y (8 * M) (7 * M + M) = cI D (x - M) y (8 * M) (7 * M) + cI D (x - M) (y + 7 * M) (8 * M) M := cI_h _ _ (by omega) (by omega)
      have s2 : cI D (x - M) y (M + 7 * M) (7 * M) = cI D (x - M) y M (7 * M) + cI D (x - M + M) y (7 * M) (7 * M) := cI_w _ _ (by omega) (by omega)
      have e1 : M + 7 * M = 8 * M := by omega
      have e4 : 7 * M + M = 8 * M := by omega
      have e3 : x - M + M = x := by omega
      rw [e4] at s1; rw [e1, e3] at s2
      omega
  · rw [if_neg r, if_neg r]
    by_cases o : 2 ≤ k
    · rw [if_pos o, if_pos o]
      have s1 : cI D x (y - M) (8 * M) (M + 7 * M) = cI D x (y - M) (8 * M) M + cI D x (y - M + M) (8 * M) (7 * M) := cI_h _ _ (by omega) (by omega)
      have s2 : cI D x (y - M + M) (7 * M + M) (7 * M) = cI D x (y - M + M) (7 * M) (7 * M) + cI D (x + 7 * M) (y - M + M) M (7 * M) := cI_w _ _ (by omega) (by omega)
      have e1 : M + 7 * M = 8 * M := by omega
      have e4 : 7 * M + M = 8 * M := by omega
      have e2 : y - M + M = y := by omega
      rw [e1, e2] at s1; rw [e4, e2] at s2
      omega
    · rw [if_neg o, if_neg o]
      have s1 : cI D x y (8 * M) (7 * M + M) = cI D x y (8 * M) (7 * M) + cI D x (y + 7 * M) (8 * M) M := cI_h _ _ (by omega) (by omega)
      have s2 : cI D x y (7 * M + M) (7 * M) = cI D x y (7 * M) (7 * M) + cI D (x + 7 * M) y M (7 * M) := cI_w _ _ (by omega) (by omega)
      have e4 : 7 * M + M = 8 * M := by omega
      rw [e4] at s1; rw [e4] at s2
      omega
end
section
/-! the list of places in order -/
abbrev better (wf : Nat → Int32) (o t : Int) : Prop := (wf o.toNat).toInt < (wf t.toNat).toInt ∨ (wf o.toNat).toInt = (wf t.toNat).toInt ∧ o < t
def isIns (n : Int) (a x : Int32) (kf wf kg wg : Nat → Int32) : Prop := ∃ p : Nat, (p : Int) ≤ n ∧ (∀ i : Nat, i < p → kg i = kf i ∧ wg i = wf i) ∧ kg p = a ∧ wg p = x ∧ (∀ i : Nat, p ≤ i → (i : Int) < n → kg (i + 1) = kf i ∧ wg (i + 1) = wf i ∧ a < kf i) ∧ (p = 0 ∨ ¬ a < kf (p - 1))
theorem ins_step {n zix : Int} {a1 : Int32} {kf wf kc wc k2 w2 : Nat → Int32} {v35 v52 v66 : Int32} (i1 : 0 ≤ zix ∧ zix ≤ n) (i2 : ∀ i : Nat, (i : Int) < zix → kc i = kf i ∧ wc i = wf i) (i3 : ∀ i : Nat, zix ≤ (i : Int) → (i : Int) < n → kc (i + 1) = kf i ∧ wc (i + 1) = wf i ∧ a1 < kf i)
    (ek : k2 = upd kc zix.toNat v52) (ew : w2 = upd wc zix.toNat v66) (e35 : v35 = kc (zix - 1).toNat) (e52 : v52 = kc (zix - 1).toNat) (e66 : v66 = wc (zix - 1).toNat) (c : a1 < v35) (h0 : 0 < zix) :
    ∀ i : Nat, zix + (-1) ≤ (i : Int) → (i : Int) < n → k2 (i + 1) = kf i ∧ w2 (i + 1) = wf i ∧ a1 < kf i := by
  intro i q1 q2
  by_cases e : (i : Int) = zix - 1
  · have z : zix.toNat = i + 1 := by omega
    have z2 : (zix - 1).toNat = i := by omega
    rw [ek, ew, z, pk_us, pk_us, e52, e66, z2]
    rw [e35, z2] at c
    have t := i2 i (by omega)
    exact ⟨t.1, t.2, by rw [← t.1]; exact c⟩
  · rw [ek, ew, pk_un (by omega), pk_un (by omega)]
    exact i3 i (by omega) q2
theorem ins_end {n zix : Int} {a1 a2 : Int32} {kf wf kc wc k2 w2 : Nat → Int32} (i1 : 0 ≤ zix ∧ zix ≤ n) (i2 : ∀ i : Nat, (i : Int) < zix → kc i = kf i ∧ wc i = wf i) (i3 : ∀ i : Nat, zix ≤ (i : Int) → (i : Int) < n → kc (i + 1) = kf i ∧ wc (i + 1) = wf i ∧ a1 < kf i)
    (ek : k2 = upd kc zix.toNat a1) (ew : w2 = upd wc zix.toNat a2) (c : zix ≤ 0 ∨ ¬ a1 < kc (zix - 1).toNat) : isIns n a1 a2 kf wf k2 w2 := by
  refine ⟨zix.toNat, by omega, fun i q => ?_, by rw [ek, pk_us], by rw [ew, pk_us], fun i q1 q2 => ?_, ?_⟩
  · rw [ek, ew, pk_un (by omega), pk_un (by omega)]; exact i2 i (by omega)
  · rw [ek, ew, pk_un (by omega), pk_un (by omega)]; exact i3 i (by omega) q2
  · rcases c with c | c
    · exact Or.inl (by omega)
    · by_cases z : zix ≤ 0
      · exact Or.inl (by omega)
      · right
        have e : (zix - 1).toNat = zix.toNat - 1 := by omega
        rw [e, (i2 (zix.toNat - 1) (by omega)).1] at c
        exact c
def lead (n : Int) (kf wf : Nat → Int32) (t : Int) : Prop := ∀ o : Int, 0 ≤ o → o < n → ¬ (better wf o t ∧ comm (kf o.toNat).toInt (kf t.toNat).toInt)
end
section
/-! a call's words, all methods having the same list behind their own code -/
section calls
variable {R : Room} {s : State} {args : Array Value} {own C : String} {idx nL mc ms : Nat} {y : MethodName} {b : ByteArray} {ret : Option FieldType} {rm : Room}
theorem aw_ws (h : Cond.code y b nL ret ∈ allw) : GoodIn allw (Cond.code y b nL ret :: allw) := fun w hw => (List.mem_cons.mp hw).elim (fun e => by subst e; exact ⟨h, allw_good h⟩) (fun h => ⟨h, allw_good h⟩)
theorem aw_V (n : Nat) (hts : ∀ w ∈ allw, w.before args s = true) (h1 : Cond.methodLink own idx y ∈ allw) (h2 : Cond.instanceMethod y ∈ allw) (h3 : Cond.selects C y y ∈ allw) (h4 : Cond.initialized C ∈ allw) (h5 : Cond.code y b nL ret ∈ allw) (hrc : rm.cells = mc) (hrs : rm.slots = ms)
    (hd : y.cls = C ∧ y.cls ≠ "java/lang/invoke/MethodHandle" ∧ y.cls ≠ "java/lang/invoke/VarHandle" ∧ (parseMethodDescriptor y.desc).map (fun d => d.parameters.length) = some n) (hR : rm.frames + 1 ≤ R.frames ∧ 8 + (nL + 11) + rm.locals ≤ R.locals) :
    CallW R s args own C idx y b nL ret (Cond.code y b nL ret :: allw) rm mc ms n :=
  cwV n hts (goodIn_app (a := [Cond.methodLink own idx y, .instanceMethod y, .selects C y y, .initialized C]) (fun w hw => by
    simp only [List.mem_cons, List.not_mem_nil, or_false] at hw
    rcases hw with rfl | rfl | rfl | rfl
    · exact ⟨h1, allw_good h1⟩
    · exact ⟨h2, allw_good h2⟩
    · exact ⟨h3, allw_good h3⟩
    · exact ⟨h4, allw_good h4⟩) (aw_ws h5)) rfl hrc hrs hd hR
theorem aw_S (n : Nat) (hts : ∀ w ∈ allw, w.before args s = true) (h1 : Cond.methodLink own idx y ∈ allw) (h2 : Cond.static y ∈ allw) (h4 : Cond.initialized y.cls ∈ allw) (h5 : Cond.code y b nL ret ∈ allw) (hrc : rm.cells = mc) (hrs : rm.slots = ms)
    (hd : y.cls ≠ "java/lang/invoke/MethodHandle" ∧ y.cls ≠ "java/lang/invoke/VarHandle" ∧ (parseMethodDescriptor y.desc).map (fun d => d.parameters.length) = some n) (hR : rm.frames + 1 ≤ R.frames ∧ 8 + (nL + 11) + rm.locals ≤ R.locals) :
    CallB R s args own idx y b nL ret (Cond.code y b nL ret :: allw) rm mc ms n ∧ (Cond.static y).before args s = true :=
  va_cwS n hts (goodIn_app (a := [Cond.methodLink own idx y, .static y, .initialized y.cls]) (fun w hw => by
    simp only [List.mem_cons, List.not_mem_nil, or_false] at hw
    rcases hw with rfl | rfl | rfl
    · exact ⟨h1, allw_good h1⟩
    · exact ⟨h2, allw_good h2⟩
    · exact ⟨h4, allw_good h4⟩) (aw_ws h5)) rfl hrc hrs hd hR
end calls
end
section
theorem wd_0 : (Cond.initialized "PlaceFinderLaw") ∈ allw := allw_of (List.mem_append_right _ (List.mem_of_getElem? (i := 0) (by decide +kernel))) (by decide +kernel)
theorem wd_1 : (Cond.initialized "PlaceFinder") ∈ allw := allw_of (List.mem_append_right _ (List.mem_of_getElem? (i := 1) (by decide +kernel))) (by decide +kernel)
theorem wd_2 : (Cond.initialized "PlaceFinder$Search") ∈ allw := allw_of (List.mem_append_right _ (List.mem_of_getElem? (i := 2) (by decide +kernel))) (by decide +kernel)
theorem wd_3 : (Cond.initialized "PlaceFinder$Paper") ∈ allw := allw_of (List.mem_append_right _ (List.mem_of_getElem? (i := 3) (by decide +kernel))) (by decide +kernel)
theorem wd_4 : (Cond.initialized "PlaceFinder$PlaceList") ∈ allw := allw_of (List.mem_append_right _ (List.mem_of_getElem? (i := 4) (by decide +kernel))) (by decide +kernel)
theorem wd_5 : (Cond.initialized "PlaceFinderModel") ∈ allw := allw_of (List.mem_append_right _ (List.mem_of_getElem? (i := 5) (by decide +kernel))) (by decide +kernel)
theorem wd_6 : (Cond.initialized "java/lang/Throwable") ∈ allw := allw_of (List.mem_append_right _ (List.mem_of_getElem? (i := 6) (by decide +kernel))) (by decide +kernel)
theorem wd_7 : (Cond.initialized "java/lang/Exception") ∈ allw := allw_of (List.mem_append_right _ (List.mem_of_getElem? (i := 7) (by decide +kernel))) (by decide +kernel)
theorem wd_8 : (Cond.initialized "java/lang/RuntimeException") ∈ allw := allw_of (List.mem_append_right _ (List.mem_of_getElem? (i := 8) (by decide +kernel))) (by decide +kernel)
theorem wd_9 : (Cond.initialized "java/lang/IllegalArgumentException") ∈ allw := allw_of (List.mem_append_right _ (List.mem_of_getElem? (i := 9) (by decide +kernel))) (by decide +kernel)
theorem wd_10 : (Cond.initialized "java/util/Arrays") ∈ allw := allw_of (List.mem_append_right _ (List.mem_of_getElem? (i := 10) (by decide +kernel))) (by decide +kernel)
theorem wd_11 : (Cond.initialized "java/lang/Math") ∈ allw := allw_of (List.mem_append_right _ (List.mem_of_getElem? (i := 11) (by decide +kernel))) (by decide +kernel)
theorem wd_12 : (Cond.initialized "java/lang/Long") ∈ allw := allw_of (List.mem_append_right _ (List.mem_of_getElem? (i := 12) (by decide +kernel))) (by decide +kernel)
theorem wd_13 : (Cond.initialized "PlaceFinder$Place") ∈ allw := allw_of (List.mem_append_right _ (List.mem_of_getElem? (i := 13) (by decide +kernel))) (by decide +kernel)
theorem wd_14 : (Cond.initialized "java/lang/System") ∈ allw := allw_of (List.mem_append_right _ (List.mem_of_getElem? (i := 14) (by decide +kernel))) (by decide +kernel)
theorem wd_15 : (Cond.initialized "java/lang/IndexOutOfBoundsException") ∈ allw := allw_of (List.mem_append_right _ (List.mem_of_getElem? (i := 15) (by decide +kernel))) (by decide +kernel)
theorem wd_16 : (Cond.classLink "PlaceFinderLaw" (8 : Nat) "PlaceFinder") ∈ allw := allw_of (List.mem_append_right _ (List.mem_of_getElem? (i := 16) (by decide +kernel))) (by decide +kernel)
theorem wd_17 : (Cond.instantiable "PlaceFinder" (4 : Nat)) ∈ allw := allw_of (List.mem_append_right _ (List.mem_of_getElem? (i := 17) (by decide +kernel))) (by decide +kernel)
theorem wd_18 : (Cond.methodLink "PlaceFinderLaw" (36 : Nat) ({ cls := "PlaceFinder", name := "<init>", desc := "()V" } : Jvm.MethodName)) ∈ allw := allw_of (List.mem_append_right _ (List.mem_of_getElem? (i := 18) (by decide +kernel))) (by decide +kernel)
theorem wd_19 : (Cond.instanceMethod ({ cls := "PlaceFinder", name := "<init>", desc := "()V" } : Jvm.MethodName)) ∈ allw := allw_of (List.mem_append_right _ (List.mem_of_getElem? (i := 19) (by decide +kernel))) (by decide +kernel)
theorem wd_20 : (Cond.code ({ cls := "PlaceFinder", name := "<init>", desc := "()V" } : Jvm.MethodName) prog_1_method_1_code (1 : Nat) (Option.none : Option Jvm.ClassFile.FieldType)) ∈ allw := allw_of (List.mem_append_right _ (List.mem_of_getElem? (i := 20) (by decide +kernel))) (by decide +kernel)
theorem wd_21 : (Cond.methodLink "PlaceFinder" (1 : Nat) ({ cls := "java/lang/Object", name := "<init>", desc := "()V" } : Jvm.MethodName)) ∈ allw := allw_of (List.mem_append_right _ (List.mem_of_getElem? (i := 21) (by decide +kernel))) (by decide +kernel)
theorem wd_22 : (Cond.instanceMethod ({ cls := "java/lang/Object", name := "<init>", desc := "()V" } : Jvm.MethodName)) ∈ allw := allw_of (List.mem_append_right _ (List.mem_of_getElem? (i := 22) (by decide +kernel))) (by decide +kernel)
theorem wd_23 : (Cond.code ({ cls := "java/lang/Object", name := "<init>", desc := "()V" } : Jvm.MethodName) object_method_1_code (1 : Nat) (Option.none : Option Jvm.ClassFile.FieldType)) ∈ allw := allw_of (List.mem_append_right _ (List.mem_of_getElem? (i := 23) (by decide +kernel))) (by decide +kernel)
theorem wd_24 : (Cond.classLink "PlaceFinder" (7 : Nat) "PlaceFinder$Search") ∈ allw := allw_of (List.mem_append_right _ (List.mem_of_getElem? (i := 24) (by decide +kernel))) (by decide +kernel)
theorem wd_25 : (Cond.instantiable "PlaceFinder$Search" (14 : Nat)) ∈ allw := allw_of (List.mem_append_right _ (List.mem_of_getElem? (i := 25) (by decide +kernel))) (by decide +kernel)
theorem wd_26 : (Cond.methodLink "PlaceFinder" (9 : Nat) ({ cls := "PlaceFinder$Search", name := "<init>", desc := "()V" } : Jvm.MethodName)) ∈ allw := allw_of (List.mem_append_right _ (List.mem_of_getElem? (i := 26) (by decide +kernel))) (by decide +kernel)
theorem wd_27 : (Cond.instanceMethod ({ cls := "PlaceFinder$Search", name := "<init>", desc := "()V" } : Jvm.MethodName)) ∈ allw := allw_of (List.mem_append_right _ (List.mem_of_getElem? (i := 27) (by decide +kernel))) (by decide +kernel)
theorem wd_28 : (Cond.code ({ cls := "PlaceFinder$Search", name := "<init>", desc := "()V" } : Jvm.MethodName) prog_5_method_1_code (1 : Nat) (Option.none : Option Jvm.ClassFile.FieldType)) ∈ allw := allw_of (List.mem_append_right _ (List.mem_of_getElem? (i := 28) (by decide +kernel))) (by decide +kernel)
theorem wd_29 : (Cond.methodLink "PlaceFinder$Search" (3 : Nat) ({ cls := "java/lang/Object", name := "<init>", desc := "()V" } : Jvm.MethodName)) ∈ allw := allw_of (List.mem_append_right _ (List.mem_of_getElem? (i := 29) (by decide +kernel))) (by decide +kernel)
theorem wd_30 : (Cond.classLink "PlaceFinder$Search" (9 : Nat) "PlaceFinder$Paper") ∈ allw := allw_of (List.mem_append_right _ (List.mem_of_getElem? (i := 30) (by decide +kernel))) (by decide +kernel)
theorem wd_31 : (Cond.instantiable "PlaceFinder$Paper" (5 : Nat)) ∈ allw := allw_of (List.mem_append_right _ (List.mem_of_getElem? (i := 31) (by decide +kernel))) (by decide +kernel)
theorem wd_32 : (Cond.methodLink "PlaceFinder$Search" (11 : Nat) ({ cls := "PlaceFinder$Paper", name := "<init>", desc := "()V" } : Jvm.MethodName)) ∈ allw := allw_of (List.mem_append_right _ (List.mem_of_getElem? (i := 32) (by decide +kernel))) (by decide +kernel)
theorem wd_33 : (Cond.instanceMethod ({ cls := "PlaceFinder$Paper", name := "<init>", desc := "()V" } : Jvm.MethodName)) ∈ allw := allw_of (List.mem_append_right _ (List.mem_of_getElem? (i := 33) (by decide +kernel))) (by decide +kernel)
theorem wd_34 : (Cond.code ({ cls := "PlaceFinder$Paper", name := "<init>", desc := "()V" } : Jvm.MethodName) prog_2_method_1_code (1 : Nat) (Option.none : Option Jvm.ClassFile.FieldType)) ∈ allw := allw_of (List.mem_append_right _ (List.mem_of_getElem? (i := 34) (by decide +kernel))) (by decide +kernel)
theorem wd_35 : (Cond.methodLink "PlaceFinder$Paper" (3 : Nat) ({ cls := "java/lang/Object", name := "<init>", desc := "()V" } : Jvm.MethodName)) ∈ allw := allw_of (List.mem_append_right _ (List.mem_of_getElem? (i := 35) (by decide +kernel))) (by decide +kernel)
theorem wd_36 : (Cond.constant "PlaceFinder$Paper" (22 : Nat) (263169 : Int32)) ∈ allw := allw_of (List.mem_append_right _ (List.mem_of_getElem? (i := 36) (by decide +kernel))) (by decide +kernel)
theorem wd_37 : (Cond.fieldLink "PlaceFinder$Paper" (9 : Nat) "PlaceFinder$Paper" "width" "I") ∈ allw := allw_of (List.mem_append_right _ (List.mem_of_getElem? (i := 37) (by decide +kernel))) (by decide +kernel)
theorem wd_38 : (Cond.fieldLink "PlaceFinder$Search" (48 : Nat) "PlaceFinder$Paper" "width" "I") ∈ allw := allw_of (List.mem_append_right _ (List.mem_of_getElem? (i := 38) (by decide +kernel))) (by decide +kernel)
theorem wd_39 : (Cond.fieldLink "PlaceFinder" (78 : Nat) "PlaceFinder$Paper" "width" "I") ∈ allw := allw_of (List.mem_append_right _ (List.mem_of_getElem? (i := 39) (by decide +kernel))) (by decide +kernel)
theorem wd_40 : (Cond.fieldLink "PlaceFinder$Paper" (15 : Nat) "PlaceFinder$Paper" "height" "I") ∈ allw := allw_of (List.mem_append_right _ (List.mem_of_getElem? (i := 40) (by decide +kernel))) (by decide +kernel)
theorem wd_41 : (Cond.fieldLink "PlaceFinder$Search" (51 : Nat) "PlaceFinder$Paper" "height" "I") ∈ allw := allw_of (List.mem_append_right _ (List.mem_of_getElem? (i := 41) (by decide +kernel))) (by decide +kernel)
theorem wd_42 : (Cond.fieldLink "PlaceFinder" (82 : Nat) "PlaceFinder$Paper" "height" "I") ∈ allw := allw_of (List.mem_append_right _ (List.mem_of_getElem? (i := 42) (by decide +kernel))) (by decide +kernel)
theorem wd_43 : (Cond.fieldLink "PlaceFinder$Paper" (18 : Nat) "PlaceFinder$Paper" "words" "[J") ∈ allw := allw_of (List.mem_append_right _ (List.mem_of_getElem? (i := 43) (by decide +kernel))) (by decide +kernel)
theorem wd_44 : (Cond.fieldLink "PlaceFinder$Paper" (23 : Nat) "PlaceFinder$Paper" "sums" "[I") ∈ allw := allw_of (List.mem_append_right _ (List.mem_of_getElem? (i := 44) (by decide +kernel))) (by decide +kernel)
theorem wd_45 : (Cond.fieldLink "PlaceFinder$Paper" (27 : Nat) "PlaceFinder$Paper" "summedRows" "I") ∈ allw := allw_of (List.mem_append_right _ (List.mem_of_getElem? (i := 45) (by decide +kernel))) (by decide +kernel)
theorem wd_46 : (Cond.lays "PlaceFinder$Paper" "PlaceFinder$Paper" "width" "I") ∈ allw := allw_of (List.mem_append_right _ (List.mem_of_getElem? (i := 46) (by decide +kernel))) (by decide +kernel)
theorem wd_48 : (Cond.lays "PlaceFinder$Paper" "PlaceFinder$Paper" "height" "I") ∈ allw := allw_of (List.mem_append_right _ (List.mem_of_getElem? (i := 48) (by decide +kernel))) (by decide +kernel)
theorem wd_50 : (Cond.laysFinal "PlaceFinder$Paper" "PlaceFinder$Paper" "words" "[J") ∈ allw := allw_of (List.mem_append_right _ (List.mem_of_getElem? (i := 50) (by decide +kernel))) (by decide +kernel)
theorem wd_52 : (Cond.laysFinal "PlaceFinder$Paper" "PlaceFinder$Paper" "sums" "[I") ∈ allw := allw_of (List.mem_append_right _ (List.mem_of_getElem? (i := 52) (by decide +kernel))) (by decide +kernel)
theorem wd_54 : (Cond.lays "PlaceFinder$Paper" "PlaceFinder$Paper" "summedRows" "I") ∈ allw := allw_of (List.mem_append_right _ (List.mem_of_getElem? (i := 54) (by decide +kernel))) (by decide +kernel)
theorem wd_57 : (Cond.arrayClass Jvm.ClassFile.FieldType.long) ∈ allw := allw_of (List.mem_append_right _ (List.mem_of_getElem? (i := 57) (by decide +kernel))) (by decide +kernel)
theorem wd_58 : (Cond.arrayClass Jvm.ClassFile.FieldType.int) ∈ allw := allw_of (List.mem_append_right _ (List.mem_of_getElem? (i := 58) (by decide +kernel))) (by decide +kernel)
theorem wd_59 : (Cond.classLink "PlaceFinder$Search" (18 : Nat) "PlaceFinder$PlaceList") ∈ allw := allw_of (List.mem_append_right _ (List.mem_of_getElem? (i := 59) (by decide +kernel))) (by decide +kernel)
theorem wd_60 : (Cond.instantiable "PlaceFinder$PlaceList" (3 : Nat)) ∈ allw := allw_of (List.mem_append_right _ (List.mem_of_getElem? (i := 60) (by decide +kernel))) (by decide +kernel)
theorem wd_61 : (Cond.methodLink "PlaceFinder$Search" (20 : Nat) ({ cls := "PlaceFinder$PlaceList", name := "<init>", desc := "()V" } : Jvm.MethodName)) ∈ allw := allw_of (List.mem_append_right _ (List.mem_of_getElem? (i := 61) (by decide +kernel))) (by decide +kernel)
theorem wd_62 : (Cond.instanceMethod ({ cls := "PlaceFinder$PlaceList", name := "<init>", desc := "()V" } : Jvm.MethodName)) ∈ allw := allw_of (List.mem_append_right _ (List.mem_of_getElem? (i := 62) (by decide +kernel))) (by decide +kernel)
theorem wd_63 : (Cond.code ({ cls := "PlaceFinder$PlaceList", name := "<init>", desc := "()V" } : Jvm.MethodName) prog_4_method_1_code (1 : Nat) (Option.none : Option Jvm.ClassFile.FieldType)) ∈ allw := allw_of (List.mem_append_right _ (List.mem_of_getElem? (i := 63) (by decide +kernel))) (by decide +kernel)
theorem wd_64 : (Cond.methodLink "PlaceFinder$PlaceList" (3 : Nat) ({ cls := "java/lang/Object", name := "<init>", desc := "()V" } : Jvm.MethodName)) ∈ allw := allw_of (List.mem_append_right _ (List.mem_of_getElem? (i := 64) (by decide +kernel))) (by decide +kernel)
theorem wd_65 : (Cond.fieldLink "PlaceFinder$PlaceList" (9 : Nat) "PlaceFinder$PlaceList" "keys" "[I") ∈ allw := allw_of (List.mem_append_right _ (List.mem_of_getElem? (i := 65) (by decide +kernel))) (by decide +kernel)
theorem wd_66 : (Cond.fieldLink "PlaceFinder" (121 : Nat) "PlaceFinder$PlaceList" "keys" "[I") ∈ allw := allw_of (List.mem_append_right _ (List.mem_of_getElem? (i := 66) (by decide +kernel))) (by decide +kernel)
theorem wd_67 : (Cond.fieldLink "PlaceFinder$PlaceList" (15 : Nat) "PlaceFinder$PlaceList" "wrongs" "[I") ∈ allw := allw_of (List.mem_append_right _ (List.mem_of_getElem? (i := 67) (by decide +kernel))) (by decide +kernel)
theorem wd_68 : (Cond.fieldLink "PlaceFinder" (134 : Nat) "PlaceFinder$PlaceList" "wrongs" "[I") ∈ allw := allw_of (List.mem_append_right _ (List.mem_of_getElem? (i := 68) (by decide +kernel))) (by decide +kernel)
theorem wd_69 : (Cond.fieldLink "PlaceFinder$PlaceList" (18 : Nat) "PlaceFinder$PlaceList" "count" "I") ∈ allw := allw_of (List.mem_append_right _ (List.mem_of_getElem? (i := 69) (by decide +kernel))) (by decide +kernel)
theorem wd_70 : (Cond.fieldLink "PlaceFinder" (116 : Nat) "PlaceFinder$PlaceList" "count" "I") ∈ allw := allw_of (List.mem_append_right _ (List.mem_of_getElem? (i := 70) (by decide +kernel))) (by decide +kernel)
theorem wd_71 : (Cond.laysFinal "PlaceFinder$PlaceList" "PlaceFinder$PlaceList" "keys" "[I") ∈ allw := allw_of (List.mem_append_right _ (List.mem_of_getElem? (i := 71) (by decide +kernel))) (by decide +kernel)
theorem wd_73 : (Cond.laysFinal "PlaceFinder$PlaceList" "PlaceFinder$PlaceList" "wrongs" "[I") ∈ allw := allw_of (List.mem_append_right _ (List.mem_of_getElem? (i := 73) (by decide +kernel))) (by decide +kernel)
theorem wd_75 : (Cond.lays "PlaceFinder$PlaceList" "PlaceFinder$PlaceList" "count" "I") ∈ allw := allw_of (List.mem_append_right _ (List.mem_of_getElem? (i := 75) (by decide +kernel))) (by decide +kernel)
theorem wd_78 : (Cond.constant "PlaceFinder$Search" (29 : Nat) (262144 : Int32)) ∈ allw := allw_of (List.mem_append_right _ (List.mem_of_getElem? (i := 78) (by decide +kernel))) (by decide +kernel)
theorem wd_79 : (Cond.fieldLink "PlaceFinder$Search" (12 : Nat) "PlaceFinder$Search" "paper" "LPlaceFinder$Paper;") ∈ allw := allw_of (List.mem_append_right _ (List.mem_of_getElem? (i := 79) (by decide +kernel))) (by decide +kernel)
theorem wd_80 : (Cond.fieldLink "PlaceFinder" (16 : Nat) "PlaceFinder$Search" "paper" "LPlaceFinder$Paper;") ∈ allw := allw_of (List.mem_append_right _ (List.mem_of_getElem? (i := 80) (by decide +kernel))) (by decide +kernel)
theorem wd_81 : (Cond.fieldLink "PlaceFinder$Search" (21 : Nat) "PlaceFinder$Search" "standing" "LPlaceFinder$PlaceList;") ∈ allw := allw_of (List.mem_append_right _ (List.mem_of_getElem? (i := 81) (by decide +kernel))) (by decide +kernel)
theorem wd_82 : (Cond.fieldLink "PlaceFinder" (21 : Nat) "PlaceFinder$Search" "standing" "LPlaceFinder$PlaceList;") ∈ allw := allw_of (List.mem_append_right _ (List.mem_of_getElem? (i := 82) (by decide +kernel))) (by decide +kernel)
theorem wd_83 : (Cond.fieldLink "PlaceFinder$Search" (37 : Nat) "PlaceFinder$Search" "limit" "I") ∈ allw := allw_of (List.mem_append_right _ (List.mem_of_getElem? (i := 83) (by decide +kernel))) (by decide +kernel)
theorem wd_84 : (Cond.fieldLink "PlaceFinder$Search" (41 : Nat) "PlaceFinder$Search" "third" "I") ∈ allw := allw_of (List.mem_append_right _ (List.mem_of_getElem? (i := 84) (by decide +kernel))) (by decide +kernel)
theorem wd_85 : (Cond.fieldLink "PlaceFinder$Search" (66 : Nat) "PlaceFinder$Search" "module" "I") ∈ allw := allw_of (List.mem_append_right _ (List.mem_of_getElem? (i := 85) (by decide +kernel))) (by decide +kernel)
theorem wd_86 : (Cond.fieldLink "PlaceFinder$Search" (98 : Nat) "PlaceFinder$Search" "size" "I") ∈ allw := allw_of (List.mem_append_right _ (List.mem_of_getElem? (i := 86) (by decide +kernel))) (by decide +kernel)
theorem wd_87 : (Cond.fieldLink "PlaceFinder$Search" (44 : Nat) "PlaceFinder$Search" "tooMany" "Z") ∈ allw := allw_of (List.mem_append_right _ (List.mem_of_getElem? (i := 87) (by decide +kernel))) (by decide +kernel)
theorem wd_88 : (Cond.fieldLink "PlaceFinder$Search" (146 : Nat) "PlaceFinder$Search" "tileX" "I") ∈ allw := allw_of (List.mem_append_right _ (List.mem_of_getElem? (i := 88) (by decide +kernel))) (by decide +kernel)
theorem wd_89 : (Cond.fieldLink "PlaceFinder$Search" (149 : Nat) "PlaceFinder$Search" "tileY" "I") ∈ allw := allw_of (List.mem_append_right _ (List.mem_of_getElem? (i := 89) (by decide +kernel))) (by decide +kernel)
theorem wd_90 : (Cond.fieldLink "PlaceFinder$Search" (159 : Nat) "PlaceFinder$Search" "spreadX" "I") ∈ allw := allw_of (List.mem_append_right _ (List.mem_of_getElem? (i := 90) (by decide +kernel))) (by decide +kernel)
theorem wd_91 : (Cond.fieldLink "PlaceFinder$Search" (162 : Nat) "PlaceFinder$Search" "spreadY" "I") ∈ allw := allw_of (List.mem_append_right _ (List.mem_of_getElem? (i := 91) (by decide +kernel))) (by decide +kernel)
theorem wd_92 : (Cond.fieldLink "PlaceFinder$Search" (25 : Nat) "PlaceFinder$Search" "quarterFloors" "[I") ∈ allw := allw_of (List.mem_append_right _ (List.mem_of_getElem? (i := 92) (by decide +kernel))) (by decide +kernel)
theorem wd_93 : (Cond.fieldLink "PlaceFinder$Search" (30 : Nat) "PlaceFinder$Search" "known" "[J") ∈ allw := allw_of (List.mem_append_right _ (List.mem_of_getElem? (i := 93) (by decide +kernel))) (by decide +kernel)
theorem wd_94 : (Cond.fieldLink "PlaceFinder$Search" (69 : Nat) "PlaceFinder$Search" "stamp" "I") ∈ allw := allw_of (List.mem_append_right _ (List.mem_of_getElem? (i := 94) (by decide +kernel))) (by decide +kernel)
theorem wd_95 : (Cond.laysFinal "PlaceFinder$Search" "PlaceFinder$Search" "paper" "LPlaceFinder$Paper;") ∈ allw := allw_of (List.mem_append_right _ (List.mem_of_getElem? (i := 95) (by decide +kernel))) (by decide +kernel)
theorem wd_97 : (Cond.laysFinal "PlaceFinder$Search" "PlaceFinder$Search" "standing" "LPlaceFinder$PlaceList;") ∈ allw := allw_of (List.mem_append_right _ (List.mem_of_getElem? (i := 97) (by decide +kernel))) (by decide +kernel)
theorem wd_99 : (Cond.lays "PlaceFinder$Search" "PlaceFinder$Search" "limit" "I") ∈ allw := allw_of (List.mem_append_right _ (List.mem_of_getElem? (i := 99) (by decide +kernel))) (by decide +kernel)
theorem wd_101 : (Cond.lays "PlaceFinder$Search" "PlaceFinder$Search" "third" "I") ∈ allw := allw_of (List.mem_append_right _ (List.mem_of_getElem? (i := 101) (by decide +kernel))) (by decide +kernel)
theorem wd_103 : (Cond.lays "PlaceFinder$Search" "PlaceFinder$Search" "module" "I") ∈ allw := allw_of (List.mem_append_right _ (List.mem_of_getElem? (i := 103) (by decide +kernel))) (by decide +kernel)
theorem wd_105 : (Cond.lays "PlaceFinder$Search" "PlaceFinder$Search" "size" "I") ∈ allw := allw_of (List.mem_append_right _ (List.mem_of_getElem? (i := 105) (by decide +kernel))) (by decide +kernel)
theorem wd_107 : (Cond.lays "PlaceFinder$Search" "PlaceFinder$Search" "tooMany" "Z") ∈ allw := allw_of (List.mem_append_right _ (List.mem_of_getElem? (i := 107) (by decide +kernel))) (by decide +kernel)
theorem wd_109 : (Cond.lays "PlaceFinder$Search" "PlaceFinder$Search" "tileX" "I") ∈ allw := allw_of (List.mem_append_right _ (List.mem_of_getElem? (i := 109) (by decide +kernel))) (by decide +kernel)
theorem wd_111 : (Cond.lays "PlaceFinder$Search" "PlaceFinder$Search" "tileY" "I") ∈ allw := allw_of (List.mem_append_right _ (List.mem_of_getElem? (i := 111) (by decide +kernel))) (by decide +kernel)
theorem wd_113 : (Cond.lays "PlaceFinder$Search" "PlaceFinder$Search" "spreadX" "I") ∈ allw := allw_of (List.mem_append_right _ (List.mem_of_getElem? (i := 113) (by decide +kernel))) (by decide +kernel)
theorem wd_115 : (Cond.lays "PlaceFinder$Search" "PlaceFinder$Search" "spreadY" "I") ∈ allw := allw_of (List.mem_append_right _ (List.mem_of_getElem? (i := 115) (by decide +kernel))) (by decide +kernel)
theorem wd_117 : (Cond.laysFinal "PlaceFinder$Search" "PlaceFinder$Search" "quarterFloors" "[I") ∈ allw := allw_of (List.mem_append_right _ (List.mem_of_getElem? (i := 117) (by decide +kernel))) (by decide +kernel)
theorem wd_119 : (Cond.laysFinal "PlaceFinder$Search" "PlaceFinder$Search" "known" "[J") ∈ allw := allw_of (List.mem_append_right _ (List.mem_of_getElem? (i := 119) (by decide +kernel))) (by decide +kernel)
theorem wd_121 : (Cond.lays "PlaceFinder$Search" "PlaceFinder$Search" "stamp" "I") ∈ allw := allw_of (List.mem_append_right _ (List.mem_of_getElem? (i := 121) (by decide +kernel))) (by decide +kernel)
theorem wd_124 : (Cond.classLink "PlaceFinder" (26 : Nat) "PlaceFinder$PlaceList") ∈ allw := allw_of (List.mem_append_right _ (List.mem_of_getElem? (i := 124) (by decide +kernel))) (by decide +kernel)
theorem wd_125 : (Cond.methodLink "PlaceFinder" (28 : Nat) ({ cls := "PlaceFinder$PlaceList", name := "<init>", desc := "()V" } : Jvm.MethodName)) ∈ allw := allw_of (List.mem_append_right _ (List.mem_of_getElem? (i := 125) (by decide +kernel))) (by decide +kernel)
theorem wd_126 : (Cond.fieldLink "PlaceFinder" (10 : Nat) "PlaceFinder" "search" "LPlaceFinder$Search;") ∈ allw := allw_of (List.mem_append_right _ (List.mem_of_getElem? (i := 126) (by decide +kernel))) (by decide +kernel)
theorem wd_127 : (Cond.fieldLink "PlaceFinder" (20 : Nat) "PlaceFinder" "paper" "LPlaceFinder$Paper;") ∈ allw := allw_of (List.mem_append_right _ (List.mem_of_getElem? (i := 127) (by decide +kernel))) (by decide +kernel)
theorem wd_128 : (Cond.fieldLink "PlaceFinder" (25 : Nat) "PlaceFinder" "standing" "LPlaceFinder$PlaceList;") ∈ allw := allw_of (List.mem_append_right _ (List.mem_of_getElem? (i := 128) (by decide +kernel))) (by decide +kernel)
theorem wd_129 : (Cond.fieldLink "PlaceFinder" (29 : Nat) "PlaceFinder" "leading" "LPlaceFinder$PlaceList;") ∈ allw := allw_of (List.mem_append_right _ (List.mem_of_getElem? (i := 129) (by decide +kernel))) (by decide +kernel)
theorem wd_130 : (Cond.laysFinal "PlaceFinder" "PlaceFinder" "search" "LPlaceFinder$Search;") ∈ allw := allw_of (List.mem_append_right _ (List.mem_of_getElem? (i := 130) (by decide +kernel))) (by decide +kernel)
theorem wd_132 : (Cond.laysFinal "PlaceFinder" "PlaceFinder" "paper" "LPlaceFinder$Paper;") ∈ allw := allw_of (List.mem_append_right _ (List.mem_of_getElem? (i := 132) (by decide +kernel))) (by decide +kernel)
theorem wd_134 : (Cond.laysFinal "PlaceFinder" "PlaceFinder" "standing" "LPlaceFinder$PlaceList;") ∈ allw := allw_of (List.mem_append_right _ (List.mem_of_getElem? (i := 134) (by decide +kernel))) (by decide +kernel)
theorem wd_136 : (Cond.laysFinal "PlaceFinder" "PlaceFinder" "leading" "LPlaceFinder$PlaceList;") ∈ allw := allw_of (List.mem_append_right _ (List.mem_of_getElem? (i := 136) (by decide +kernel))) (by decide +kernel)
theorem wd_139 : (Cond.methodLink "PlaceFinderLaw" (52 : Nat) ({ cls := "PlaceFinder", name := "turn", desc := "(IIJ)I" } : Jvm.MethodName)) ∈ allw := allw_of (List.mem_append_right _ (List.mem_of_getElem? (i := 139) (by decide +kernel))) (by decide +kernel)
theorem wd_140 : (Cond.instanceMethod ({ cls := "PlaceFinder", name := "turn", desc := "(IIJ)I" } : Jvm.MethodName)) ∈ allw := allw_of (List.mem_append_right _ (List.mem_of_getElem? (i := 140) (by decide +kernel))) (by decide +kernel)
theorem wd_141 : (Cond.selects "PlaceFinder" ({ cls := "PlaceFinder", name := "turn", desc := "(IIJ)I" } : Jvm.MethodName) ({ cls := "PlaceFinder", name := "turn", desc := "(IIJ)I" } : Jvm.MethodName)) ∈ allw := allw_of (List.mem_append_right _ (List.mem_of_getElem? (i := 141) (by decide +kernel))) (by decide +kernel)
theorem wd_142 : (Cond.code ({ cls := "PlaceFinder", name := "turn", desc := "(IIJ)I" } : Jvm.MethodName) prog_1_method_3_code (5 : Nat) (Option.some Jvm.ClassFile.FieldType.int)) ∈ allw := allw_of (List.mem_append_right _ (List.mem_of_getElem? (i := 142) (by decide +kernel))) (by decide +kernel)
theorem wd_143 : (Cond.methodLink "PlaceFinder" (52 : Nat) ({ cls := "PlaceFinder$Paper", name := "flip", desc := "(IIJ)I" } : Jvm.MethodName)) ∈ allw := allw_of (List.mem_append_right _ (List.mem_of_getElem? (i := 143) (by decide +kernel))) (by decide +kernel)
theorem wd_144 : (Cond.instanceMethod ({ cls := "PlaceFinder$Paper", name := "flip", desc := "(IIJ)I" } : Jvm.MethodName)) ∈ allw := allw_of (List.mem_append_right _ (List.mem_of_getElem? (i := 144) (by decide +kernel))) (by decide +kernel)
theorem wd_145 : (Cond.selects "PlaceFinder$Paper" ({ cls := "PlaceFinder$Paper", name := "flip", desc := "(IIJ)I" } : Jvm.MethodName) ({ cls := "PlaceFinder$Paper", name := "flip", desc := "(IIJ)I" } : Jvm.MethodName)) ∈ allw := allw_of (List.mem_append_right _ (List.mem_of_getElem? (i := 145) (by decide +kernel))) (by decide +kernel)
theorem wd_146 : (Cond.code ({ cls := "PlaceFinder$Paper", name := "flip", desc := "(IIJ)I" } : Jvm.MethodName) prog_2_method_4_code (10 : Nat) (Option.some Jvm.ClassFile.FieldType.int)) ∈ allw := allw_of (List.mem_append_right _ (List.mem_of_getElem? (i := 146) (by decide +kernel))) (by decide +kernel)
theorem wd_147 : (Cond.methodLink "PlaceFinder$Paper" (36 : Nat) ({ cls := "java/lang/Math", name := "max", desc := "(II)I" } : Jvm.MethodName)) ∈ allw := allw_of (List.mem_append_right _ (List.mem_of_getElem? (i := 147) (by decide +kernel))) (by decide +kernel)
theorem wd_148 : (Cond.static ({ cls := "java/lang/Math", name := "max", desc := "(II)I" } : Jvm.MethodName)) ∈ allw := allw_of (List.mem_append_right _ (List.mem_of_getElem? (i := 148) (by decide +kernel))) (by decide +kernel)
theorem wd_149 : (Cond.code ({ cls := "java/lang/Math", name := "max", desc := "(II)I" } : Jvm.MethodName) prog_12_method_65_code (2 : Nat) (Option.some Jvm.ClassFile.FieldType.int)) ∈ allw := allw_of (List.mem_append_right _ (List.mem_of_getElem? (i := 149) (by decide +kernel))) (by decide +kernel)
theorem wd_150 : (Cond.methodLink "PlaceFinder$Paper" (42 : Nat) ({ cls := "java/lang/Math", name := "min", desc := "(II)I" } : Jvm.MethodName)) ∈ allw := allw_of (List.mem_append_right _ (List.mem_of_getElem? (i := 150) (by decide +kernel))) (by decide +kernel)
theorem wd_151 : (Cond.static ({ cls := "java/lang/Math", name := "min", desc := "(II)I" } : Jvm.MethodName)) ∈ allw := allw_of (List.mem_append_right _ (List.mem_of_getElem? (i := 151) (by decide +kernel))) (by decide +kernel)
theorem wd_152 : (Cond.code ({ cls := "java/lang/Math", name := "min", desc := "(II)I" } : Jvm.MethodName) prog_12_method_69_code (2 : Nat) (Option.some Jvm.ClassFile.FieldType.int)) ∈ allw := allw_of (List.mem_append_right _ (List.mem_of_getElem? (i := 152) (by decide +kernel))) (by decide +kernel)
theorem wd_153 : (Cond.methodLink "PlaceFinder$Paper" (45 : Nat) ({ cls := "java/lang/Long", name := "bitCount", desc := "(J)I" } : Jvm.MethodName)) ∈ allw := allw_of (List.mem_append_right _ (List.mem_of_getElem? (i := 153) (by decide +kernel))) (by decide +kernel)
theorem wd_154 : (Cond.static ({ cls := "java/lang/Long", name := "bitCount", desc := "(J)I" } : Jvm.MethodName)) ∈ allw := allw_of (List.mem_append_right _ (List.mem_of_getElem? (i := 154) (by decide +kernel))) (by decide +kernel)
theorem wd_155 : (Cond.code ({ cls := "java/lang/Long", name := "bitCount", desc := "(J)I" } : Jvm.MethodName) prog_11_method_50_code (2 : Nat) (Option.some Jvm.ClassFile.FieldType.int)) ∈ allw := allw_of (List.mem_append_right _ (List.mem_of_getElem? (i := 155) (by decide +kernel))) (by decide +kernel)
theorem wd_156 : (Cond.constantLong "java/lang/Long" (314 : Nat) (6148914691236517205 : Int64)) ∈ allw := allw_of (List.mem_append_right _ (List.mem_of_getElem? (i := 156) (by decide +kernel))) (by decide +kernel)
theorem wd_157 : (Cond.constantLong "java/lang/Long" (316 : Nat) (3689348814741910323 : Int64)) ∈ allw := allw_of (List.mem_append_right _ (List.mem_of_getElem? (i := 157) (by decide +kernel))) (by decide +kernel)
theorem wd_158 : (Cond.constantLong "java/lang/Long" (318 : Nat) (1085102592571150095 : Int64)) ∈ allw := allw_of (List.mem_append_right _ (List.mem_of_getElem? (i := 158) (by decide +kernel))) (by decide +kernel)
theorem wd_159 : (Cond.methodLink "PlaceFinderLaw" (65 : Nat) ({ cls := "PlaceFinder", name := "dots", desc := "(II)J" } : Jvm.MethodName)) ∈ allw := allw_of (List.mem_append_right _ (List.mem_of_getElem? (i := 159) (by decide +kernel))) (by decide +kernel)
theorem wd_160 : (Cond.instanceMethod ({ cls := "PlaceFinder", name := "dots", desc := "(II)J" } : Jvm.MethodName)) ∈ allw := allw_of (List.mem_append_right _ (List.mem_of_getElem? (i := 160) (by decide +kernel))) (by decide +kernel)
theorem wd_161 : (Cond.selects "PlaceFinder" ({ cls := "PlaceFinder", name := "dots", desc := "(II)J" } : Jvm.MethodName) ({ cls := "PlaceFinder", name := "dots", desc := "(II)J" } : Jvm.MethodName)) ∈ allw := allw_of (List.mem_append_right _ (List.mem_of_getElem? (i := 161) (by decide +kernel))) (by decide +kernel)
theorem wd_162 : (Cond.code ({ cls := "PlaceFinder", name := "dots", desc := "(II)J" } : Jvm.MethodName) prog_1_method_6_code (3 : Nat) (Option.some Jvm.ClassFile.FieldType.long)) ∈ allw := allw_of (List.mem_append_right _ (List.mem_of_getElem? (i := 162) (by decide +kernel))) (by decide +kernel)
theorem wd_163 : (Cond.methodLink "PlaceFinder" (98 : Nat) ({ cls := "PlaceFinder$Paper", name := "bits", desc := "(II)J" } : Jvm.MethodName)) ∈ allw := allw_of (List.mem_append_right _ (List.mem_of_getElem? (i := 163) (by decide +kernel))) (by decide +kernel)
theorem wd_164 : (Cond.instanceMethod ({ cls := "PlaceFinder$Paper", name := "bits", desc := "(II)J" } : Jvm.MethodName)) ∈ allw := allw_of (List.mem_append_right _ (List.mem_of_getElem? (i := 164) (by decide +kernel))) (by decide +kernel)
theorem wd_165 : (Cond.selects "PlaceFinder$Paper" ({ cls := "PlaceFinder$Paper", name := "bits", desc := "(II)J" } : Jvm.MethodName) ({ cls := "PlaceFinder$Paper", name := "bits", desc := "(II)J" } : Jvm.MethodName)) ∈ allw := allw_of (List.mem_append_right _ (List.mem_of_getElem? (i := 165) (by decide +kernel))) (by decide +kernel)
theorem wd_166 : (Cond.code ({ cls := "PlaceFinder$Paper", name := "bits", desc := "(II)J" } : Jvm.MethodName) prog_2_method_3_code (8 : Nat) (Option.some Jvm.ClassFile.FieldType.long)) ∈ allw := allw_of (List.mem_append_right _ (List.mem_of_getElem? (i := 166) (by decide +kernel))) (by decide +kernel)
theorem wd_167 : (Cond.methodLink "PlaceFinderLaw" (73 : Nat) ({ cls := "PlaceFinder", name := "stood", desc := "()I" } : Jvm.MethodName)) ∈ allw := allw_of (List.mem_append_right _ (List.mem_of_getElem? (i := 167) (by decide +kernel))) (by decide +kernel)
theorem wd_168 : (Cond.instanceMethod ({ cls := "PlaceFinder", name := "stood", desc := "()I" } : Jvm.MethodName)) ∈ allw := allw_of (List.mem_append_right _ (List.mem_of_getElem? (i := 168) (by decide +kernel))) (by decide +kernel)
theorem wd_169 : (Cond.selects "PlaceFinder" ({ cls := "PlaceFinder", name := "stood", desc := "()I" } : Jvm.MethodName) ({ cls := "PlaceFinder", name := "stood", desc := "()I" } : Jvm.MethodName)) ∈ allw := allw_of (List.mem_append_right _ (List.mem_of_getElem? (i := 169) (by decide +kernel))) (by decide +kernel)
theorem wd_170 : (Cond.code ({ cls := "PlaceFinder", name := "stood", desc := "()I" } : Jvm.MethodName) prog_1_method_8_code (1 : Nat) (Option.some Jvm.ClassFile.FieldType.int)) ∈ allw := allw_of (List.mem_append_right _ (List.mem_of_getElem? (i := 170) (by decide +kernel))) (by decide +kernel)
theorem wd_171 : (Cond.methodLink "PlaceFinderLaw" (40 : Nat) ({ cls := "PlaceFinderLaw", name := "sheet", desc := "(LPlaceFinder;II)I" } : Jvm.MethodName)) ∈ allw := allw_of (List.mem_append_right _ (List.mem_of_getElem? (i := 171) (by decide +kernel))) (by decide +kernel)
theorem wd_172 : (Cond.static ({ cls := "PlaceFinderLaw", name := "sheet", desc := "(LPlaceFinder;II)I" } : Jvm.MethodName)) ∈ allw := allw_of (List.mem_append_right _ (List.mem_of_getElem? (i := 172) (by decide +kernel))) (by decide +kernel)
theorem wd_174 : (Cond.classLink "PlaceFinderLaw" (13 : Nat) "java/lang/IllegalArgumentException") ∈ allw := allw_of (List.mem_append_right _ (List.mem_of_getElem? (i := 174) (by decide +kernel))) (by decide +kernel)
theorem wd_175 : (Cond.methodLink "PlaceFinderLaw" (7 : Nat) ({ cls := "PlaceFinder", name := "sheet", desc := "(II)V" } : Jvm.MethodName)) ∈ allw := allw_of (List.mem_append_right _ (List.mem_of_getElem? (i := 175) (by decide +kernel))) (by decide +kernel)
theorem wd_176 : (Cond.instanceMethod ({ cls := "PlaceFinder", name := "sheet", desc := "(II)V" } : Jvm.MethodName)) ∈ allw := allw_of (List.mem_append_right _ (List.mem_of_getElem? (i := 176) (by decide +kernel))) (by decide +kernel)
theorem wd_177 : (Cond.selects "PlaceFinder" ({ cls := "PlaceFinder", name := "sheet", desc := "(II)V" } : Jvm.MethodName) ({ cls := "PlaceFinder", name := "sheet", desc := "(II)V" } : Jvm.MethodName)) ∈ allw := allw_of (List.mem_append_right _ (List.mem_of_getElem? (i := 177) (by decide +kernel))) (by decide +kernel)
theorem wd_178 : (Cond.code ({ cls := "PlaceFinder", name := "sheet", desc := "(II)V" } : Jvm.MethodName) prog_1_method_2_code (3 : Nat) (Option.none : Option Jvm.ClassFile.FieldType)) ∈ allw := allw_of (List.mem_append_right _ (List.mem_of_getElem? (i := 178) (by decide +kernel))) (by decide +kernel)
theorem wd_179 : (Cond.methodLink "PlaceFinder" (32 : Nat) ({ cls := "PlaceFinder", name := "isWithin", desc := "(III)Z" } : Jvm.MethodName)) ∈ allw := allw_of (List.mem_append_right _ (List.mem_of_getElem? (i := 179) (by decide +kernel))) (by decide +kernel)
theorem wd_180 : (Cond.static ({ cls := "PlaceFinder", name := "isWithin", desc := "(III)Z" } : Jvm.MethodName)) ∈ allw := allw_of (List.mem_append_right _ (List.mem_of_getElem? (i := 180) (by decide +kernel))) (by decide +kernel)
theorem wd_181 : (Cond.code ({ cls := "PlaceFinder", name := "isWithin", desc := "(III)Z" } : Jvm.MethodName) prog_1_method_11_code (3 : Nat) (Option.some Jvm.ClassFile.FieldType.boolean)) ∈ allw := allw_of (List.mem_append_right _ (List.mem_of_getElem? (i := 181) (by decide +kernel))) (by decide +kernel)
theorem wd_182 : (Cond.classLink "PlaceFinder" (36 : Nat) "java/lang/IllegalArgumentException") ∈ allw := allw_of (List.mem_append_right _ (List.mem_of_getElem? (i := 182) (by decide +kernel))) (by decide +kernel)
theorem wd_183 : (Cond.instantiable "java/lang/IllegalArgumentException" (6 : Nat)) ∈ allw := allw_of (List.mem_append_right _ (List.mem_of_getElem? (i := 183) (by decide +kernel))) (by decide +kernel)
theorem wd_191 : (Cond.selects "java/lang/IllegalArgumentException" ({ cls := "java/lang/Throwable", name := "fillInStackTrace", desc := "(I)Ljava/lang/Throwable;" } : Jvm.MethodName) ({ cls := "java/lang/Throwable", name := "fillInStackTrace", desc := "(I)Ljava/lang/Throwable;" } : Jvm.MethodName)) ∈ allw := allw_of (List.mem_append_right _ (List.mem_of_getElem? (i := 191) (by decide +kernel))) (by decide +kernel)
theorem wd_192 : (Cond.selects "java/lang/IllegalArgumentException" ({ cls := "java/lang/Throwable", name := "fillInStackTrace", desc := "()Ljava/lang/Throwable;" } : Jvm.MethodName) ({ cls := "java/lang/Throwable", name := "fillInStackTrace", desc := "()Ljava/lang/Throwable;" } : Jvm.MethodName)) ∈ allw := allw_of (List.mem_append_right _ (List.mem_of_getElem? (i := 192) (by decide +kernel))) (by decide +kernel)
theorem wd_193 : (Cond.lays "java/lang/IllegalArgumentException" "java/lang/Throwable" "cause" "Ljava/lang/Throwable;") ∈ allw := allw_of (List.mem_append_right _ (List.mem_of_getElem? (i := 193) (by decide +kernel))) (by decide +kernel)
theorem wd_194 : (Cond.lays "java/lang/Throwable" "java/lang/Throwable" "cause" "Ljava/lang/Throwable;") ∈ allw := allw_of (List.mem_append_right _ (List.mem_of_getElem? (i := 194) (by decide +kernel))) (by decide +kernel)
theorem wd_195 : (Cond.lays "java/lang/IllegalArgumentException" "java/lang/Throwable" "stackTrace" "[Ljava/lang/StackTraceElement;") ∈ allw := allw_of (List.mem_append_right _ (List.mem_of_getElem? (i := 195) (by decide +kernel))) (by decide +kernel)
theorem wd_196 : (Cond.lays "java/lang/Throwable" "java/lang/Throwable" "stackTrace" "[Ljava/lang/StackTraceElement;") ∈ allw := allw_of (List.mem_append_right _ (List.mem_of_getElem? (i := 196) (by decide +kernel))) (by decide +kernel)
theorem wd_197 : (Cond.lays "java/lang/IllegalArgumentException" "java/lang/Throwable" "suppressedExceptions" "Ljava/util/List;") ∈ allw := allw_of (List.mem_append_right _ (List.mem_of_getElem? (i := 197) (by decide +kernel))) (by decide +kernel)
theorem wd_198 : (Cond.lays "java/lang/Throwable" "java/lang/Throwable" "suppressedExceptions" "Ljava/util/List;") ∈ allw := allw_of (List.mem_append_right _ (List.mem_of_getElem? (i := 198) (by decide +kernel))) (by decide +kernel)
theorem wd_199 : (Cond.lays "java/lang/IllegalArgumentException" "java/lang/Throwable" "detailMessage" "Ljava/lang/String;") ∈ allw := allw_of (List.mem_append_right _ (List.mem_of_getElem? (i := 199) (by decide +kernel))) (by decide +kernel)
theorem wd_200 : (Cond.lays "java/lang/Throwable" "java/lang/Throwable" "detailMessage" "Ljava/lang/String;") ∈ allw := allw_of (List.mem_append_right _ (List.mem_of_getElem? (i := 200) (by decide +kernel))) (by decide +kernel)
theorem wd_201 : (Cond.lays "java/lang/IllegalArgumentException" "java/lang/Throwable" "backtrace" "Ljava/lang/Object;") ∈ allw := allw_of (List.mem_append_right _ (List.mem_of_getElem? (i := 201) (by decide +kernel))) (by decide +kernel)
theorem wd_202 : (Cond.lays "java/lang/Throwable" "java/lang/Throwable" "backtrace" "Ljava/lang/Object;") ∈ allw := allw_of (List.mem_append_right _ (List.mem_of_getElem? (i := 202) (by decide +kernel))) (by decide +kernel)
theorem wd_203 : (Cond.fieldLink "java/lang/Throwable" (198 : Nat) "java/lang/Throwable" "backtrace" "Ljava/lang/Object;") ∈ allw := allw_of (List.mem_append_right _ (List.mem_of_getElem? (i := 203) (by decide +kernel))) (by decide +kernel)
theorem wd_205 : (Cond.instanceMethod ({ cls := "java/lang/Throwable", name := "<init>", desc := "()V" } : Jvm.MethodName)) ∈ allw := allw_of (List.mem_append_right _ (List.mem_of_getElem? (i := 205) (by decide +kernel))) (by decide +kernel)
theorem wd_206 : (Cond.code ({ cls := "java/lang/Throwable", name := "<init>", desc := "()V" } : Jvm.MethodName) prog_16_method_1_code (1 : Nat) (Option.none : Option Jvm.ClassFile.FieldType)) ∈ allw := allw_of (List.mem_append_right _ (List.mem_of_getElem? (i := 206) (by decide +kernel))) (by decide +kernel)
theorem wd_207 : (Cond.methodLink "java/lang/Throwable" (1 : Nat) ({ cls := "java/lang/Object", name := "<init>", desc := "()V" } : Jvm.MethodName)) ∈ allw := allw_of (List.mem_append_right _ (List.mem_of_getElem? (i := 207) (by decide +kernel))) (by decide +kernel)
theorem wd_208 : (Cond.fieldLink "java/lang/Throwable" (13 : Nat) "java/lang/Throwable" "UNASSIGNED_STACK" "[Ljava/lang/StackTraceElement;") ∈ allw := allw_of (List.mem_append_right _ (List.mem_of_getElem? (i := 208) (by decide +kernel))) (by decide +kernel)
theorem wd_210 : (Cond.fieldLink "java/lang/Throwable" (20 : Nat) "java/lang/Throwable" "SUPPRESSED_SENTINEL" "Ljava/util/List;") ∈ allw := allw_of (List.mem_append_right _ (List.mem_of_getElem? (i := 210) (by decide +kernel))) (by decide +kernel)
theorem wd_212 : (Cond.methodLink "java/lang/Throwable" (27 : Nat) ({ cls := "java/lang/Throwable", name := "fillInStackTrace", desc := "()Ljava/lang/Throwable;" } : Jvm.MethodName)) ∈ allw := allw_of (List.mem_append_right _ (List.mem_of_getElem? (i := 212) (by decide +kernel))) (by decide +kernel)
theorem wd_213 : (Cond.instanceMethod ({ cls := "java/lang/Throwable", name := "fillInStackTrace", desc := "()Ljava/lang/Throwable;" } : Jvm.MethodName)) ∈ allw := allw_of (List.mem_append_right _ (List.mem_of_getElem? (i := 213) (by decide +kernel))) (by decide +kernel)
theorem wd_215 : (Cond.selects "java/lang/IndexOutOfBoundsException" ({ cls := "java/lang/Throwable", name := "fillInStackTrace", desc := "()Ljava/lang/Throwable;" } : Jvm.MethodName) ({ cls := "java/lang/Throwable", name := "fillInStackTrace", desc := "()Ljava/lang/Throwable;" } : Jvm.MethodName)) ∈ allw := allw_of (List.mem_append_right _ (List.mem_of_getElem? (i := 215) (by decide +kernel))) (by decide +kernel)
theorem wd_217 : (Cond.methodLink "java/lang/Throwable" (202 : Nat) ({ cls := "java/lang/Throwable", name := "fillInStackTrace", desc := "(I)Ljava/lang/Throwable;" } : Jvm.MethodName)) ∈ allw := allw_of (List.mem_append_right _ (List.mem_of_getElem? (i := 217) (by decide +kernel))) (by decide +kernel)
theorem wd_219 : (Cond.instanceMethod ({ cls := "java/lang/Throwable", name := "fillInStackTrace", desc := "(I)Ljava/lang/Throwable;" } : Jvm.MethodName)) ∈ allw := allw_of (List.mem_append_right _ (List.mem_of_getElem? (i := 219) (by decide +kernel))) (by decide +kernel)
theorem wd_220 : (Cond.instantiable "java/lang/Throwable" (6 : Nat)) ∈ allw := allw_of (List.mem_append_right _ (List.mem_of_getElem? (i := 220) (by decide +kernel))) (by decide +kernel)
theorem wd_221 : (Cond.native ({ cls := "java/lang/Throwable", name := "fillInStackTrace", desc := "(I)Ljava/lang/Throwable;" } : Jvm.MethodName)) ∈ allw := allw_of (List.mem_append_right _ (List.mem_of_getElem? (i := 221) (by decide +kernel))) (by decide +kernel)
theorem wd_223 : (Cond.methodLink "PlaceFinder" (40 : Nat) ({ cls := "java/lang/IllegalArgumentException", name := "<init>", desc := "(Ljava/lang/String;)V" } : Jvm.MethodName)) ∈ allw := allw_of (List.mem_append_right _ (List.mem_of_getElem? (i := 223) (by decide +kernel))) (by decide +kernel)
theorem wd_224 : (Cond.instanceMethod ({ cls := "java/lang/IllegalArgumentException", name := "<init>", desc := "(Ljava/lang/String;)V" } : Jvm.MethodName)) ∈ allw := allw_of (List.mem_append_right _ (List.mem_of_getElem? (i := 224) (by decide +kernel))) (by decide +kernel)
theorem wd_225 : (Cond.code ({ cls := "java/lang/IllegalArgumentException", name := "<init>", desc := "(Ljava/lang/String;)V" } : Jvm.MethodName) prog_9_method_2_code (2 : Nat) (Option.none : Option Jvm.ClassFile.FieldType)) ∈ allw := allw_of (List.mem_append_right _ (List.mem_of_getElem? (i := 225) (by decide +kernel))) (by decide +kernel)
theorem wd_226 : (Cond.methodLink "java/lang/IllegalArgumentException" (7 : Nat) ({ cls := "java/lang/RuntimeException", name := "<init>", desc := "(Ljava/lang/String;)V" } : Jvm.MethodName)) ∈ allw := allw_of (List.mem_append_right _ (List.mem_of_getElem? (i := 226) (by decide +kernel))) (by decide +kernel)
theorem wd_227 : (Cond.instanceMethod ({ cls := "java/lang/RuntimeException", name := "<init>", desc := "(Ljava/lang/String;)V" } : Jvm.MethodName)) ∈ allw := allw_of (List.mem_append_right _ (List.mem_of_getElem? (i := 227) (by decide +kernel))) (by decide +kernel)
theorem wd_228 : (Cond.code ({ cls := "java/lang/RuntimeException", name := "<init>", desc := "(Ljava/lang/String;)V" } : Jvm.MethodName) prog_13_method_2_code (2 : Nat) (Option.none : Option Jvm.ClassFile.FieldType)) ∈ allw := allw_of (List.mem_append_right _ (List.mem_of_getElem? (i := 228) (by decide +kernel))) (by decide +kernel)
theorem wd_229 : (Cond.methodLink "java/lang/RuntimeException" (7 : Nat) ({ cls := "java/lang/Exception", name := "<init>", desc := "(Ljava/lang/String;)V" } : Jvm.MethodName)) ∈ allw := allw_of (List.mem_append_right _ (List.mem_of_getElem? (i := 229) (by decide +kernel))) (by decide +kernel)
theorem wd_230 : (Cond.instanceMethod ({ cls := "java/lang/Exception", name := "<init>", desc := "(Ljava/lang/String;)V" } : Jvm.MethodName)) ∈ allw := allw_of (List.mem_append_right _ (List.mem_of_getElem? (i := 230) (by decide +kernel))) (by decide +kernel)
theorem wd_231 : (Cond.code ({ cls := "java/lang/Exception", name := "<init>", desc := "(Ljava/lang/String;)V" } : Jvm.MethodName) prog_8_method_2_code (2 : Nat) (Option.none : Option Jvm.ClassFile.FieldType)) ∈ allw := allw_of (List.mem_append_right _ (List.mem_of_getElem? (i := 231) (by decide +kernel))) (by decide +kernel)
theorem wd_232 : (Cond.methodLink "java/lang/Exception" (7 : Nat) ({ cls := "java/lang/Throwable", name := "<init>", desc := "(Ljava/lang/String;)V" } : Jvm.MethodName)) ∈ allw := allw_of (List.mem_append_right _ (List.mem_of_getElem? (i := 232) (by decide +kernel))) (by decide +kernel)
theorem wd_233 : (Cond.instanceMethod ({ cls := "java/lang/Throwable", name := "<init>", desc := "(Ljava/lang/String;)V" } : Jvm.MethodName)) ∈ allw := allw_of (List.mem_append_right _ (List.mem_of_getElem? (i := 233) (by decide +kernel))) (by decide +kernel)
theorem wd_234 : (Cond.code ({ cls := "java/lang/Throwable", name := "<init>", desc := "(Ljava/lang/String;)V" } : Jvm.MethodName) prog_16_method_2_code (2 : Nat) (Option.none : Option Jvm.ClassFile.FieldType)) ∈ allw := allw_of (List.mem_append_right _ (List.mem_of_getElem? (i := 234) (by decide +kernel))) (by decide +kernel)
theorem wd_235 : (Cond.fieldLink "java/lang/Throwable" (198 : Nat) "java/lang/Throwable" "backtrace" "Ljava/lang/Object;") ∈ allw := allw_of (List.mem_append_right _ (List.mem_of_getElem? (i := 235) (by decide +kernel))) (by decide +kernel)
theorem wd_236 : (Cond.fieldLink "java/lang/Throwable" (31 : Nat) "java/lang/Throwable" "detailMessage" "Ljava/lang/String;") ∈ allw := allw_of (List.mem_append_right _ (List.mem_of_getElem? (i := 236) (by decide +kernel))) (by decide +kernel)
theorem wd_237 : (Cond.fieldLink "java/lang/Throwable" (7 : Nat) "java/lang/Throwable" "cause" "Ljava/lang/Throwable;") ∈ allw := allw_of (List.mem_append_right _ (List.mem_of_getElem? (i := 237) (by decide +kernel))) (by decide +kernel)
theorem wd_238 : (Cond.fieldLink "java/lang/Throwable" (17 : Nat) "java/lang/Throwable" "stackTrace" "[Ljava/lang/StackTraceElement;") ∈ allw := allw_of (List.mem_append_right _ (List.mem_of_getElem? (i := 238) (by decide +kernel))) (by decide +kernel)
theorem wd_239 : (Cond.fieldLink "java/lang/Throwable" (24 : Nat) "java/lang/Throwable" "suppressedExceptions" "Ljava/util/List;") ∈ allw := allw_of (List.mem_append_right _ (List.mem_of_getElem? (i := 239) (by decide +kernel))) (by decide +kernel)
theorem wd_244 : (Cond.lays "java/lang/IllegalArgumentException" "java/lang/Throwable" "depth" "I") ∈ allw := allw_of (List.mem_append_right _ (List.mem_of_getElem? (i := 244) (by decide +kernel))) (by decide +kernel)
theorem wd_248 : (Cond.arrayClass Jvm.ClassFile.FieldType.byte) ∈ allw := allw_of (List.mem_append_right _ (List.mem_of_getElem? (i := 248) (by decide +kernel))) (by decide +kernel)
theorem wd_249 : (Cond.methodLink "PlaceFinder" (43 : Nat) ({ cls := "PlaceFinder$Paper", name := "renew", desc := "(II)V" } : Jvm.MethodName)) ∈ allw := allw_of (List.mem_append_right _ (List.mem_of_getElem? (i := 249) (by decide +kernel))) (by decide +kernel)
theorem wd_250 : (Cond.instanceMethod ({ cls := "PlaceFinder$Paper", name := "renew", desc := "(II)V" } : Jvm.MethodName)) ∈ allw := allw_of (List.mem_append_right _ (List.mem_of_getElem? (i := 250) (by decide +kernel))) (by decide +kernel)
theorem wd_251 : (Cond.selects "PlaceFinder$Paper" ({ cls := "PlaceFinder$Paper", name := "renew", desc := "(II)V" } : Jvm.MethodName) ({ cls := "PlaceFinder$Paper", name := "renew", desc := "(II)V" } : Jvm.MethodName)) ∈ allw := allw_of (List.mem_append_right _ (List.mem_of_getElem? (i := 251) (by decide +kernel))) (by decide +kernel)
theorem wd_252 : (Cond.code ({ cls := "PlaceFinder$Paper", name := "renew", desc := "(II)V" } : Jvm.MethodName) prog_2_method_2_code (3 : Nat) (Option.none : Option Jvm.ClassFile.FieldType)) ∈ allw := allw_of (List.mem_append_right _ (List.mem_of_getElem? (i := 252) (by decide +kernel))) (by decide +kernel)
theorem wd_253 : (Cond.methodLink "PlaceFinder$Paper" (30 : Nat) ({ cls := "java/util/Arrays", name := "fill", desc := "([JJ)V" } : Jvm.MethodName)) ∈ allw := allw_of (List.mem_append_right _ (List.mem_of_getElem? (i := 253) (by decide +kernel))) (by decide +kernel)
theorem wd_254 : (Cond.static ({ cls := "java/util/Arrays", name := "fill", desc := "([JJ)V" } : Jvm.MethodName)) ∈ allw := allw_of (List.mem_append_right _ (List.mem_of_getElem? (i := 254) (by decide +kernel))) (by decide +kernel)
theorem wd_255 : (Cond.code ({ cls := "java/util/Arrays", name := "fill", desc := "([JJ)V" } : Jvm.MethodName) prog_17_method_101_code (5 : Nat) (Option.none : Option Jvm.ClassFile.FieldType)) ∈ allw := allw_of (List.mem_append_right _ (List.mem_of_getElem? (i := 255) (by decide +kernel))) (by decide +kernel)
theorem wd_256 : (Cond.methodLink "PlaceFinder" (49 : Nat) ({ cls := "PlaceFinder$PlaceList", name := "clear", desc := "()V" } : Jvm.MethodName)) ∈ allw := allw_of (List.mem_append_right _ (List.mem_of_getElem? (i := 256) (by decide +kernel))) (by decide +kernel)
theorem wd_257 : (Cond.instanceMethod ({ cls := "PlaceFinder$PlaceList", name := "clear", desc := "()V" } : Jvm.MethodName)) ∈ allw := allw_of (List.mem_append_right _ (List.mem_of_getElem? (i := 257) (by decide +kernel))) (by decide +kernel)
theorem wd_258 : (Cond.selects "PlaceFinder$PlaceList" ({ cls := "PlaceFinder$PlaceList", name := "clear", desc := "()V" } : Jvm.MethodName) ({ cls := "PlaceFinder$PlaceList", name := "clear", desc := "()V" } : Jvm.MethodName)) ∈ allw := allw_of (List.mem_append_right _ (List.mem_of_getElem? (i := 258) (by decide +kernel))) (by decide +kernel)
theorem wd_259 : (Cond.code ({ cls := "PlaceFinder$PlaceList", name := "clear", desc := "()V" } : Jvm.MethodName) prog_4_method_2_code (1 : Nat) (Option.none : Option Jvm.ClassFile.FieldType)) ∈ allw := allw_of (List.mem_append_right _ (List.mem_of_getElem? (i := 259) (by decide +kernel))) (by decide +kernel)
theorem wd_260 : (Cond.methodLink "PlaceFinderLaw" (57 : Nat) ({ cls := "PlaceFinderLaw", name := "fill", desc := "(LPlaceFinder;IIIIZ[J)I" } : Jvm.MethodName)) ∈ allw := allw_of (List.mem_append_right _ (List.mem_of_getElem? (i := 260) (by decide +kernel))) (by decide +kernel)
theorem wd_261 : (Cond.static ({ cls := "PlaceFinderLaw", name := "fill", desc := "(LPlaceFinder;IIIIZ[J)I" } : Jvm.MethodName)) ∈ allw := allw_of (List.mem_append_right _ (List.mem_of_getElem? (i := 261) (by decide +kernel))) (by decide +kernel)
theorem wd_263 : (Cond.methodLink "PlaceFinderLaw" (15 : Nat) ({ cls := "PlaceFinder", name := "fill", desc := "(IIIIZ)I" } : Jvm.MethodName)) ∈ allw := allw_of (List.mem_append_right _ (List.mem_of_getElem? (i := 263) (by decide +kernel))) (by decide +kernel)
theorem wd_264 : (Cond.instanceMethod ({ cls := "PlaceFinder", name := "fill", desc := "(IIIIZ)I" } : Jvm.MethodName)) ∈ allw := allw_of (List.mem_append_right _ (List.mem_of_getElem? (i := 264) (by decide +kernel))) (by decide +kernel)
theorem wd_265 : (Cond.selects "PlaceFinder" ({ cls := "PlaceFinder", name := "fill", desc := "(IIIIZ)I" } : Jvm.MethodName) ({ cls := "PlaceFinder", name := "fill", desc := "(IIIIZ)I" } : Jvm.MethodName)) ∈ allw := allw_of (List.mem_append_right _ (List.mem_of_getElem? (i := 265) (by decide +kernel))) (by decide +kernel)
theorem wd_266 : (Cond.code ({ cls := "PlaceFinder", name := "fill", desc := "(IIIIZ)I" } : Jvm.MethodName) prog_1_method_4_code (6 : Nat) (Option.some Jvm.ClassFile.FieldType.int)) ∈ allw := allw_of (List.mem_append_right _ (List.mem_of_getElem? (i := 266) (by decide +kernel))) (by decide +kernel)
theorem wd_268 : (Cond.methodLink "PlaceFinder" (58 : Nat) ({ cls := "PlaceFinder$Paper", name := "paint", desc := "(IIIIZ)I" } : Jvm.MethodName)) ∈ allw := allw_of (List.mem_append_right _ (List.mem_of_getElem? (i := 268) (by decide +kernel))) (by decide +kernel)
theorem wd_269 : (Cond.instanceMethod ({ cls := "PlaceFinder$Paper", name := "paint", desc := "(IIIIZ)I" } : Jvm.MethodName)) ∈ allw := allw_of (List.mem_append_right _ (List.mem_of_getElem? (i := 269) (by decide +kernel))) (by decide +kernel)
theorem wd_270 : (Cond.selects "PlaceFinder$Paper" ({ cls := "PlaceFinder$Paper", name := "paint", desc := "(IIIIZ)I" } : Jvm.MethodName) ({ cls := "PlaceFinder$Paper", name := "paint", desc := "(IIIIZ)I" } : Jvm.MethodName)) ∈ allw := allw_of (List.mem_append_right _ (List.mem_of_getElem? (i := 270) (by decide +kernel))) (by decide +kernel)
theorem wd_271 : (Cond.code ({ cls := "PlaceFinder$Paper", name := "paint", desc := "(IIIIZ)I" } : Jvm.MethodName) prog_2_method_5_code (15 : Nat) (Option.some Jvm.ClassFile.FieldType.int)) ∈ allw := allw_of (List.mem_append_right _ (List.mem_of_getElem? (i := 271) (by decide +kernel))) (by decide +kernel)
theorem wd_272 : (Cond.methodLink "PlaceFinder$Paper" (51 : Nat) ({ cls := "java/lang/Math", name := "min", desc := "(JJ)J" } : Jvm.MethodName)) ∈ allw := allw_of (List.mem_append_right _ (List.mem_of_getElem? (i := 272) (by decide +kernel))) (by decide +kernel)
theorem wd_273 : (Cond.static ({ cls := "java/lang/Math", name := "min", desc := "(JJ)J" } : Jvm.MethodName)) ∈ allw := allw_of (List.mem_append_right _ (List.mem_of_getElem? (i := 273) (by decide +kernel))) (by decide +kernel)
theorem wd_274 : (Cond.code ({ cls := "java/lang/Math", name := "min", desc := "(JJ)J" } : Jvm.MethodName) prog_12_method_70_code (4 : Nat) (Option.some Jvm.ClassFile.FieldType.long)) ∈ allw := allw_of (List.mem_append_right _ (List.mem_of_getElem? (i := 274) (by decide +kernel))) (by decide +kernel)
theorem wd_275 : (Cond.methodLink "PlaceFinder$Paper" (54 : Nat) ({ cls := "PlaceFinder$Paper", name := "bits", desc := "(II)J" } : Jvm.MethodName)) ∈ allw := allw_of (List.mem_append_right _ (List.mem_of_getElem? (i := 275) (by decide +kernel))) (by decide +kernel)
theorem wd_276 : (Cond.constantLong "PlaceFinder$Paper" (58 : Nat) (-1 : Int64)) ∈ allw := allw_of (List.mem_append_right _ (List.mem_of_getElem? (i := 276) (by decide +kernel))) (by decide +kernel)
theorem wd_277 : (Cond.methodLink "PlaceFinder$Paper" (60 : Nat) ({ cls := "PlaceFinder$Paper", name := "lowest", desc := "(I)J" } : Jvm.MethodName)) ∈ allw := allw_of (List.mem_append_right _ (List.mem_of_getElem? (i := 277) (by decide +kernel))) (by decide +kernel)
theorem wd_278 : (Cond.static ({ cls := "PlaceFinder$Paper", name := "lowest", desc := "(I)J" } : Jvm.MethodName)) ∈ allw := allw_of (List.mem_append_right _ (List.mem_of_getElem? (i := 278) (by decide +kernel))) (by decide +kernel)
theorem wd_279 : (Cond.code ({ cls := "PlaceFinder$Paper", name := "lowest", desc := "(I)J" } : Jvm.MethodName) prog_2_method_7_code (1 : Nat) (Option.some Jvm.ClassFile.FieldType.long)) ∈ allw := allw_of (List.mem_append_right _ (List.mem_of_getElem? (i := 279) (by decide +kernel))) (by decide +kernel)
theorem wd_280 : (Cond.methodLink "PlaceFinder$Paper" (64 : Nat) ({ cls := "PlaceFinder$Paper", name := "flip", desc := "(IIJ)I" } : Jvm.MethodName)) ∈ allw := allw_of (List.mem_append_right _ (List.mem_of_getElem? (i := 280) (by decide +kernel))) (by decide +kernel)
theorem wd_281 : (Cond.methodLink "PlaceFinderLaw" (61 : Nat) ({ cls := "PlaceFinderLaw", name := "draw", desc := "(LPlaceFinder;III[J)I" } : Jvm.MethodName)) ∈ allw := allw_of (List.mem_append_right _ (List.mem_of_getElem? (i := 281) (by decide +kernel))) (by decide +kernel)
theorem wd_282 : (Cond.static ({ cls := "PlaceFinderLaw", name := "draw", desc := "(LPlaceFinder;III[J)I" } : Jvm.MethodName)) ∈ allw := allw_of (List.mem_append_right _ (List.mem_of_getElem? (i := 282) (by decide +kernel))) (by decide +kernel)
theorem wd_284 : (Cond.methodLink "PlaceFinderLaw" (19 : Nat) ({ cls := "PlaceFinder", name := "draw", desc := "(III)I" } : Jvm.MethodName)) ∈ allw := allw_of (List.mem_append_right _ (List.mem_of_getElem? (i := 284) (by decide +kernel))) (by decide +kernel)
theorem wd_285 : (Cond.instanceMethod ({ cls := "PlaceFinder", name := "draw", desc := "(III)I" } : Jvm.MethodName)) ∈ allw := allw_of (List.mem_append_right _ (List.mem_of_getElem? (i := 285) (by decide +kernel))) (by decide +kernel)
theorem wd_286 : (Cond.selects "PlaceFinder" ({ cls := "PlaceFinder", name := "draw", desc := "(III)I" } : Jvm.MethodName) ({ cls := "PlaceFinder", name := "draw", desc := "(III)I" } : Jvm.MethodName)) ∈ allw := allw_of (List.mem_append_right _ (List.mem_of_getElem? (i := 286) (by decide +kernel))) (by decide +kernel)
theorem wd_287 : (Cond.code ({ cls := "PlaceFinder", name := "draw", desc := "(III)I" } : Jvm.MethodName) prog_1_method_5_code (7 : Nat) (Option.some Jvm.ClassFile.FieldType.int)) ∈ allw := allw_of (List.mem_append_right _ (List.mem_of_getElem? (i := 287) (by decide +kernel))) (by decide +kernel)
theorem wd_289 : (Cond.methodLink "PlaceFinder" (64 : Nat) ({ cls := "PlaceFinder$Place", name := "moduleOf", desc := "(I)I" } : Jvm.MethodName)) ∈ allw := allw_of (List.mem_append_right _ (List.mem_of_getElem? (i := 289) (by decide +kernel))) (by decide +kernel)
theorem wd_290 : (Cond.static ({ cls := "PlaceFinder$Place", name := "moduleOf", desc := "(I)I" } : Jvm.MethodName)) ∈ allw := allw_of (List.mem_append_right _ (List.mem_of_getElem? (i := 290) (by decide +kernel))) (by decide +kernel)
theorem wd_291 : (Cond.code ({ cls := "PlaceFinder$Place", name := "moduleOf", desc := "(I)I" } : Jvm.MethodName) prog_3_method_5_code (1 : Nat) (Option.some Jvm.ClassFile.FieldType.int)) ∈ allw := allw_of (List.mem_append_right _ (List.mem_of_getElem? (i := 291) (by decide +kernel))) (by decide +kernel)
theorem wd_292 : (Cond.methodLink "PlaceFinder" (70 : Nat) ({ cls := "PlaceFinder$Place", name := "versionOf", desc := "(I)I" } : Jvm.MethodName)) ∈ allw := allw_of (List.mem_append_right _ (List.mem_of_getElem? (i := 292) (by decide +kernel))) (by decide +kernel)
theorem wd_293 : (Cond.static ({ cls := "PlaceFinder$Place", name := "versionOf", desc := "(I)I" } : Jvm.MethodName)) ∈ allw := allw_of (List.mem_append_right _ (List.mem_of_getElem? (i := 293) (by decide +kernel))) (by decide +kernel)
theorem wd_294 : (Cond.code ({ cls := "PlaceFinder$Place", name := "versionOf", desc := "(I)I" } : Jvm.MethodName) prog_3_method_6_code (1 : Nat) (Option.some Jvm.ClassFile.FieldType.int)) ∈ allw := allw_of (List.mem_append_right _ (List.mem_of_getElem? (i := 294) (by decide +kernel))) (by decide +kernel)
theorem wd_296 : (Cond.methodLink "PlaceFinder" (75 : Nat) ({ cls := "PlaceFinder$Place", name := "sizeOf", desc := "(I)I" } : Jvm.MethodName)) ∈ allw := allw_of (List.mem_append_right _ (List.mem_of_getElem? (i := 296) (by decide +kernel))) (by decide +kernel)
theorem wd_297 : (Cond.static ({ cls := "PlaceFinder$Place", name := "sizeOf", desc := "(I)I" } : Jvm.MethodName)) ∈ allw := allw_of (List.mem_append_right _ (List.mem_of_getElem? (i := 297) (by decide +kernel))) (by decide +kernel)
theorem wd_298 : (Cond.code ({ cls := "PlaceFinder$Place", name := "sizeOf", desc := "(I)I" } : Jvm.MethodName) prog_3_method_8_code (1 : Nat) (Option.some Jvm.ClassFile.FieldType.int)) ∈ allw := allw_of (List.mem_append_right _ (List.mem_of_getElem? (i := 298) (by decide +kernel))) (by decide +kernel)
theorem wd_300 : (Cond.classLink "PlaceFinder" (65 : Nat) "PlaceFinder$Place") ∈ allw := allw_of (List.mem_append_right _ (List.mem_of_getElem? (i := 300) (by decide +kernel))) (by decide +kernel)
theorem wd_301 : (Cond.instantiable "PlaceFinder$Place" (5 : Nat)) ∈ allw := allw_of (List.mem_append_right _ (List.mem_of_getElem? (i := 301) (by decide +kernel))) (by decide +kernel)
theorem wd_302 : (Cond.methodLink "PlaceFinder" (87 : Nat) ({ cls := "PlaceFinder$Place", name := "keyOf", desc := "(III)I" } : Jvm.MethodName)) ∈ allw := allw_of (List.mem_append_right _ (List.mem_of_getElem? (i := 302) (by decide +kernel))) (by decide +kernel)
theorem wd_303 : (Cond.static ({ cls := "PlaceFinder$Place", name := "keyOf", desc := "(III)I" } : Jvm.MethodName)) ∈ allw := allw_of (List.mem_append_right _ (List.mem_of_getElem? (i := 303) (by decide +kernel))) (by decide +kernel)
theorem wd_304 : (Cond.code ({ cls := "PlaceFinder$Place", name := "keyOf", desc := "(III)I" } : Jvm.MethodName) prog_3_method_2_code (3 : Nat) (Option.some Jvm.ClassFile.FieldType.int)) ∈ allw := allw_of (List.mem_append_right _ (List.mem_of_getElem? (i := 304) (by decide +kernel))) (by decide +kernel)
theorem wd_305 : (Cond.methodLink "PlaceFinder" (91 : Nat) ({ cls := "PlaceFinder$Place", name := "<init>", desc := "(I)V" } : Jvm.MethodName)) ∈ allw := allw_of (List.mem_append_right _ (List.mem_of_getElem? (i := 305) (by decide +kernel))) (by decide +kernel)
theorem wd_306 : (Cond.instanceMethod ({ cls := "PlaceFinder$Place", name := "<init>", desc := "(I)V" } : Jvm.MethodName)) ∈ allw := allw_of (List.mem_append_right _ (List.mem_of_getElem? (i := 306) (by decide +kernel))) (by decide +kernel)
theorem wd_307 : (Cond.code ({ cls := "PlaceFinder$Place", name := "<init>", desc := "(I)V" } : Jvm.MethodName) prog_3_method_1_code (2 : Nat) (Option.none : Option Jvm.ClassFile.FieldType)) ∈ allw := allw_of (List.mem_append_right _ (List.mem_of_getElem? (i := 307) (by decide +kernel))) (by decide +kernel)
theorem wd_308 : (Cond.methodLink "PlaceFinder$Place" (3 : Nat) ({ cls := "java/lang/Object", name := "<init>", desc := "()V" } : Jvm.MethodName)) ∈ allw := allw_of (List.mem_append_right _ (List.mem_of_getElem? (i := 308) (by decide +kernel))) (by decide +kernel)
theorem wd_309 : (Cond.methodLink "PlaceFinder$Place" (9 : Nat) ({ cls := "PlaceFinder$Place", name := "leftOf", desc := "(I)I" } : Jvm.MethodName)) ∈ allw := allw_of (List.mem_append_right _ (List.mem_of_getElem? (i := 309) (by decide +kernel))) (by decide +kernel)
theorem wd_310 : (Cond.static ({ cls := "PlaceFinder$Place", name := "leftOf", desc := "(I)I" } : Jvm.MethodName)) ∈ allw := allw_of (List.mem_append_right _ (List.mem_of_getElem? (i := 310) (by decide +kernel))) (by decide +kernel)
theorem wd_311 : (Cond.code ({ cls := "PlaceFinder$Place", name := "leftOf", desc := "(I)I" } : Jvm.MethodName) prog_3_method_3_code (1 : Nat) (Option.some Jvm.ClassFile.FieldType.int)) ∈ allw := allw_of (List.mem_append_right _ (List.mem_of_getElem? (i := 311) (by decide +kernel))) (by decide +kernel)
theorem wd_312 : (Cond.methodLink "PlaceFinder$Place" (19 : Nat) ({ cls := "PlaceFinder$Place", name := "topOf", desc := "(I)I" } : Jvm.MethodName)) ∈ allw := allw_of (List.mem_append_right _ (List.mem_of_getElem? (i := 312) (by decide +kernel))) (by decide +kernel)
theorem wd_313 : (Cond.static ({ cls := "PlaceFinder$Place", name := "topOf", desc := "(I)I" } : Jvm.MethodName)) ∈ allw := allw_of (List.mem_append_right _ (List.mem_of_getElem? (i := 313) (by decide +kernel))) (by decide +kernel)
theorem wd_314 : (Cond.code ({ cls := "PlaceFinder$Place", name := "topOf", desc := "(I)I" } : Jvm.MethodName) prog_3_method_4_code (1 : Nat) (Option.some Jvm.ClassFile.FieldType.int)) ∈ allw := allw_of (List.mem_append_right _ (List.mem_of_getElem? (i := 314) (by decide +kernel))) (by decide +kernel)
theorem wd_315 : (Cond.methodLink "PlaceFinder$Place" (25 : Nat) ({ cls := "PlaceFinder$Place", name := "moduleOf", desc := "(I)I" } : Jvm.MethodName)) ∈ allw := allw_of (List.mem_append_right _ (List.mem_of_getElem? (i := 315) (by decide +kernel))) (by decide +kernel)
theorem wd_316 : (Cond.methodLink "PlaceFinder$Place" (31 : Nat) ({ cls := "PlaceFinder$Place", name := "versionOf", desc := "(I)I" } : Jvm.MethodName)) ∈ allw := allw_of (List.mem_append_right _ (List.mem_of_getElem? (i := 316) (by decide +kernel))) (by decide +kernel)
theorem wd_317 : (Cond.methodLink "PlaceFinder$Place" (34 : Nat) ({ cls := "PlaceFinder$Place", name := "sizeOf", desc := "(I)I" } : Jvm.MethodName)) ∈ allw := allw_of (List.mem_append_right _ (List.mem_of_getElem? (i := 317) (by decide +kernel))) (by decide +kernel)
theorem wd_318 : (Cond.methodLink "PlaceFinder$Place" (40 : Nat) ({ cls := "PlaceFinder$Place", name := "quarterOf", desc := "(I)I" } : Jvm.MethodName)) ∈ allw := allw_of (List.mem_append_right _ (List.mem_of_getElem? (i := 318) (by decide +kernel))) (by decide +kernel)
theorem wd_319 : (Cond.static ({ cls := "PlaceFinder$Place", name := "quarterOf", desc := "(I)I" } : Jvm.MethodName)) ∈ allw := allw_of (List.mem_append_right _ (List.mem_of_getElem? (i := 319) (by decide +kernel))) (by decide +kernel)
theorem wd_320 : (Cond.code ({ cls := "PlaceFinder$Place", name := "quarterOf", desc := "(I)I" } : Jvm.MethodName) prog_3_method_7_code (1 : Nat) (Option.some Jvm.ClassFile.FieldType.int)) ∈ allw := allw_of (List.mem_append_right _ (List.mem_of_getElem? (i := 320) (by decide +kernel))) (by decide +kernel)
theorem wd_321 : (Cond.fieldLink "PlaceFinder$Place" (15 : Nat) "PlaceFinder$Place" "left" "I") ∈ allw := allw_of (List.mem_append_right _ (List.mem_of_getElem? (i := 321) (by decide +kernel))) (by decide +kernel)
theorem wd_322 : (Cond.fieldLink "PlaceFinder$Place" (22 : Nat) "PlaceFinder$Place" "top" "I") ∈ allw := allw_of (List.mem_append_right _ (List.mem_of_getElem? (i := 322) (by decide +kernel))) (by decide +kernel)
theorem wd_323 : (Cond.fieldLink "PlaceFinder$Place" (28 : Nat) "PlaceFinder$Place" "module" "I") ∈ allw := allw_of (List.mem_append_right _ (List.mem_of_getElem? (i := 323) (by decide +kernel))) (by decide +kernel)
theorem wd_324 : (Cond.fieldLink "PlaceFinder" (150 : Nat) "PlaceFinder$Place" "module" "I") ∈ allw := allw_of (List.mem_append_right _ (List.mem_of_getElem? (i := 324) (by decide +kernel))) (by decide +kernel)
theorem wd_325 : (Cond.fieldLink "PlaceFinder$Place" (37 : Nat) "PlaceFinder$Place" "size" "I") ∈ allw := allw_of (List.mem_append_right _ (List.mem_of_getElem? (i := 325) (by decide +kernel))) (by decide +kernel)
theorem wd_326 : (Cond.fieldLink "PlaceFinder" (164 : Nat) "PlaceFinder$Place" "size" "I") ∈ allw := allw_of (List.mem_append_right _ (List.mem_of_getElem? (i := 326) (by decide +kernel))) (by decide +kernel)
theorem wd_327 : (Cond.fieldLink "PlaceFinder$Place" (43 : Nat) "PlaceFinder$Place" "quarter" "I") ∈ allw := allw_of (List.mem_append_right _ (List.mem_of_getElem? (i := 327) (by decide +kernel))) (by decide +kernel)
theorem wd_328 : (Cond.laysFinal "PlaceFinder$Place" "PlaceFinder$Place" "left" "I") ∈ allw := allw_of (List.mem_append_right _ (List.mem_of_getElem? (i := 328) (by decide +kernel))) (by decide +kernel)
theorem wd_330 : (Cond.laysFinal "PlaceFinder$Place" "PlaceFinder$Place" "top" "I") ∈ allw := allw_of (List.mem_append_right _ (List.mem_of_getElem? (i := 330) (by decide +kernel))) (by decide +kernel)
theorem wd_332 : (Cond.laysFinal "PlaceFinder$Place" "PlaceFinder$Place" "module" "I") ∈ allw := allw_of (List.mem_append_right _ (List.mem_of_getElem? (i := 332) (by decide +kernel))) (by decide +kernel)
theorem wd_334 : (Cond.laysFinal "PlaceFinder$Place" "PlaceFinder$Place" "size" "I") ∈ allw := allw_of (List.mem_append_right _ (List.mem_of_getElem? (i := 334) (by decide +kernel))) (by decide +kernel)
theorem wd_336 : (Cond.laysFinal "PlaceFinder$Place" "PlaceFinder$Place" "quarter" "I") ∈ allw := allw_of (List.mem_append_right _ (List.mem_of_getElem? (i := 336) (by decide +kernel))) (by decide +kernel)
theorem wd_339 : (Cond.methodLink "PlaceFinder" (94 : Nat) ({ cls := "PlaceFinder", name := "drawFixed", desc := "(LPlaceFinder$Place;)I" } : Jvm.MethodName)) ∈ allw := allw_of (List.mem_append_right _ (List.mem_of_getElem? (i := 339) (by decide +kernel))) (by decide +kernel)
theorem wd_341 : (Cond.instanceMethod ({ cls := "PlaceFinder", name := "drawFixed", desc := "(LPlaceFinder$Place;)I" } : Jvm.MethodName)) ∈ allw := allw_of (List.mem_append_right _ (List.mem_of_getElem? (i := 341) (by decide +kernel))) (by decide +kernel)
theorem wd_342 : (Cond.code ({ cls := "PlaceFinder", name := "drawFixed", desc := "(LPlaceFinder$Place;)I" } : Jvm.MethodName) prog_1_method_13_code (6 : Nat) (Option.some Jvm.ClassFile.FieldType.int)) ∈ allw := allw_of (List.mem_append_right _ (List.mem_of_getElem? (i := 342) (by decide +kernel))) (by decide +kernel)
theorem wd_343 : (Cond.methodLink "PlaceFinder" (167 : Nat) ({ cls := "PlaceFinder", name := "drawCorner", desc := "(LPlaceFinder$Place;II)I" } : Jvm.MethodName)) ∈ allw := allw_of (List.mem_append_right _ (List.mem_of_getElem? (i := 343) (by decide +kernel))) (by decide +kernel)
theorem wd_345 : (Cond.instanceMethod ({ cls := "PlaceFinder", name := "drawCorner", desc := "(LPlaceFinder$Place;II)I" } : Jvm.MethodName)) ∈ allw := allw_of (List.mem_append_right _ (List.mem_of_getElem? (i := 345) (by decide +kernel))) (by decide +kernel)
theorem wd_346 : (Cond.code ({ cls := "PlaceFinder", name := "drawCorner", desc := "(LPlaceFinder$Place;II)I" } : Jvm.MethodName) prog_1_method_14_code (8 : Nat) (Option.some Jvm.ClassFile.FieldType.int)) ∈ allw := allw_of (List.mem_append_right _ (List.mem_of_getElem? (i := 346) (by decide +kernel))) (by decide +kernel)
theorem wd_347 : (Cond.methodLink "PlaceFinder" (142 : Nat) ({ cls := "PlaceFinder$Place", name := "hasModule", desc := "(II)Z" } : Jvm.MethodName)) ∈ allw := allw_of (List.mem_append_right _ (List.mem_of_getElem? (i := 347) (by decide +kernel))) (by decide +kernel)
theorem wd_348 : (Cond.instanceMethod ({ cls := "PlaceFinder$Place", name := "hasModule", desc := "(II)Z" } : Jvm.MethodName)) ∈ allw := allw_of (List.mem_append_right _ (List.mem_of_getElem? (i := 348) (by decide +kernel))) (by decide +kernel)
theorem wd_349 : (Cond.selects "PlaceFinder$Place" ({ cls := "PlaceFinder$Place", name := "hasModule", desc := "(II)Z" } : Jvm.MethodName) ({ cls := "PlaceFinder$Place", name := "hasModule", desc := "(II)Z" } : Jvm.MethodName)) ∈ allw := allw_of (List.mem_append_right _ (List.mem_of_getElem? (i := 349) (by decide +kernel))) (by decide +kernel)
theorem wd_350 : (Cond.code ({ cls := "PlaceFinder$Place", name := "hasModule", desc := "(II)Z" } : Jvm.MethodName) prog_3_method_10_code (3 : Nat) (Option.some Jvm.ClassFile.FieldType.boolean)) ∈ allw := allw_of (List.mem_append_right _ (List.mem_of_getElem? (i := 350) (by decide +kernel))) (by decide +kernel)
theorem wd_351 : (Cond.methodLink "PlaceFinder" (175 : Nat) ({ cls := "java/lang/Math", name := "abs", desc := "(I)I" } : Jvm.MethodName)) ∈ allw := allw_of (List.mem_append_right _ (List.mem_of_getElem? (i := 351) (by decide +kernel))) (by decide +kernel)
theorem wd_352 : (Cond.static ({ cls := "java/lang/Math", name := "abs", desc := "(I)I" } : Jvm.MethodName)) ∈ allw := allw_of (List.mem_append_right _ (List.mem_of_getElem? (i := 352) (by decide +kernel))) (by decide +kernel)
theorem wd_353 : (Cond.code ({ cls := "java/lang/Math", name := "abs", desc := "(I)I" } : Jvm.MethodName) prog_12_method_59_code (1 : Nat) (Option.some Jvm.ClassFile.FieldType.int)) ∈ allw := allw_of (List.mem_append_right _ (List.mem_of_getElem? (i := 353) (by decide +kernel))) (by decide +kernel)
theorem wd_354 : (Cond.methodLink "PlaceFinder" (180 : Nat) ({ cls := "java/lang/Math", name := "max", desc := "(II)I" } : Jvm.MethodName)) ∈ allw := allw_of (List.mem_append_right _ (List.mem_of_getElem? (i := 354) (by decide +kernel))) (by decide +kernel)
theorem wd_355 : (Cond.methodLink "PlaceFinder" (171 : Nat) ({ cls := "PlaceFinder", name := "drawModule", desc := "(LPlaceFinder$Place;IIZ)I" } : Jvm.MethodName)) ∈ allw := allw_of (List.mem_append_right _ (List.mem_of_getElem? (i := 355) (by decide +kernel))) (by decide +kernel)
theorem wd_357 : (Cond.instanceMethod ({ cls := "PlaceFinder", name := "drawModule", desc := "(LPlaceFinder$Place;IIZ)I" } : Jvm.MethodName)) ∈ allw := allw_of (List.mem_append_right _ (List.mem_of_getElem? (i := 357) (by decide +kernel))) (by decide +kernel)
theorem wd_358 : (Cond.code ({ cls := "PlaceFinder", name := "drawModule", desc := "(LPlaceFinder$Place;IIZ)I" } : Jvm.MethodName) prog_1_method_15_code (6 : Nat) (Option.some Jvm.ClassFile.FieldType.int)) ∈ allw := allw_of (List.mem_append_right _ (List.mem_of_getElem? (i := 358) (by decide +kernel))) (by decide +kernel)
theorem wd_359 : (Cond.methodLink "PlaceFinder" (153 : Nat) ({ cls := "PlaceFinder$Place", name := "blockLeft", desc := "(II)I" } : Jvm.MethodName)) ∈ allw := allw_of (List.mem_append_right _ (List.mem_of_getElem? (i := 359) (by decide +kernel))) (by decide +kernel)
theorem wd_360 : (Cond.instanceMethod ({ cls := "PlaceFinder$Place", name := "blockLeft", desc := "(II)I" } : Jvm.MethodName)) ∈ allw := allw_of (List.mem_append_right _ (List.mem_of_getElem? (i := 360) (by decide +kernel))) (by decide +kernel)
theorem wd_361 : (Cond.selects "PlaceFinder$Place" ({ cls := "PlaceFinder$Place", name := "blockLeft", desc := "(II)I" } : Jvm.MethodName) ({ cls := "PlaceFinder$Place", name := "blockLeft", desc := "(II)I" } : Jvm.MethodName)) ∈ allw := allw_of (List.mem_append_right _ (List.mem_of_getElem? (i := 361) (by decide +kernel))) (by decide +kernel)
theorem wd_362 : (Cond.code ({ cls := "PlaceFinder$Place", name := "blockLeft", desc := "(II)I" } : Jvm.MethodName) prog_3_method_11_code (5 : Nat) (Option.some Jvm.ClassFile.FieldType.int)) ∈ allw := allw_of (List.mem_append_right _ (List.mem_of_getElem? (i := 362) (by decide +kernel))) (by decide +kernel)
theorem wd_363 : (Cond.methodLink "PlaceFinder" (157 : Nat) ({ cls := "PlaceFinder$Place", name := "blockTop", desc := "(II)I" } : Jvm.MethodName)) ∈ allw := allw_of (List.mem_append_right _ (List.mem_of_getElem? (i := 363) (by decide +kernel))) (by decide +kernel)
theorem wd_364 : (Cond.instanceMethod ({ cls := "PlaceFinder$Place", name := "blockTop", desc := "(II)I" } : Jvm.MethodName)) ∈ allw := allw_of (List.mem_append_right _ (List.mem_of_getElem? (i := 364) (by decide +kernel))) (by decide +kernel)
theorem wd_365 : (Cond.selects "PlaceFinder$Place" ({ cls := "PlaceFinder$Place", name := "blockTop", desc := "(II)I" } : Jvm.MethodName) ({ cls := "PlaceFinder$Place", name := "blockTop", desc := "(II)I" } : Jvm.MethodName)) ∈ allw := allw_of (List.mem_append_right _ (List.mem_of_getElem? (i := 365) (by decide +kernel))) (by decide +kernel)
theorem wd_366 : (Cond.code ({ cls := "PlaceFinder$Place", name := "blockTop", desc := "(II)I" } : Jvm.MethodName) prog_3_method_12_code (5 : Nat) (Option.some Jvm.ClassFile.FieldType.int)) ∈ allw := allw_of (List.mem_append_right _ (List.mem_of_getElem? (i := 366) (by decide +kernel))) (by decide +kernel)
theorem wd_367 : (Cond.methodLink "PlaceFinderLaw" (70 : Nat) ({ cls := "PlaceFinderLaw", name := "find", desc := "(LPlaceFinder;III[J)I" } : Jvm.MethodName)) ∈ allw := allw_of (List.mem_append_right _ (List.mem_of_getElem? (i := 367) (by decide +kernel))) (by decide +kernel)
theorem wd_368 : (Cond.static ({ cls := "PlaceFinderLaw", name := "find", desc := "(LPlaceFinder;III[J)I" } : Jvm.MethodName)) ∈ allw := allw_of (List.mem_append_right _ (List.mem_of_getElem? (i := 368) (by decide +kernel))) (by decide +kernel)
theorem wd_370 : (Cond.methodLink "PlaceFinderLaw" (23 : Nat) ({ cls := "PlaceFinder", name := "find", desc := "(III)I" } : Jvm.MethodName)) ∈ allw := allw_of (List.mem_append_right _ (List.mem_of_getElem? (i := 370) (by decide +kernel))) (by decide +kernel)
theorem wd_371 : (Cond.instanceMethod ({ cls := "PlaceFinder", name := "find", desc := "(III)I" } : Jvm.MethodName)) ∈ allw := allw_of (List.mem_append_right _ (List.mem_of_getElem? (i := 371) (by decide +kernel))) (by decide +kernel)
theorem wd_372 : (Cond.selects "PlaceFinder" ({ cls := "PlaceFinder", name := "find", desc := "(III)I" } : Jvm.MethodName) ({ cls := "PlaceFinder", name := "find", desc := "(III)I" } : Jvm.MethodName)) ∈ allw := allw_of (List.mem_append_right _ (List.mem_of_getElem? (i := 372) (by decide +kernel))) (by decide +kernel)
theorem wd_373 : (Cond.code ({ cls := "PlaceFinder", name := "find", desc := "(III)I" } : Jvm.MethodName) prog_1_method_7_code (4 : Nat) (Option.some Jvm.ClassFile.FieldType.int)) ∈ allw := allw_of (List.mem_append_right _ (List.mem_of_getElem? (i := 373) (by decide +kernel))) (by decide +kernel)
theorem wd_376 : (Cond.methodLink "PlaceFinder" (106 : Nat) ({ cls := "PlaceFinder$Paper", name := "addUp", desc := "()V" } : Jvm.MethodName)) ∈ allw := allw_of (List.mem_append_right _ (List.mem_of_getElem? (i := 376) (by decide +kernel))) (by decide +kernel)
theorem wd_377 : (Cond.instanceMethod ({ cls := "PlaceFinder$Paper", name := "addUp", desc := "()V" } : Jvm.MethodName)) ∈ allw := allw_of (List.mem_append_right _ (List.mem_of_getElem? (i := 377) (by decide +kernel))) (by decide +kernel)
theorem wd_378 : (Cond.selects "PlaceFinder$Paper" ({ cls := "PlaceFinder$Paper", name := "addUp", desc := "()V" } : Jvm.MethodName) ({ cls := "PlaceFinder$Paper", name := "addUp", desc := "()V" } : Jvm.MethodName)) ∈ allw := allw_of (List.mem_append_right _ (List.mem_of_getElem? (i := 378) (by decide +kernel))) (by decide +kernel)
theorem wd_379 : (Cond.code ({ cls := "PlaceFinder$Paper", name := "addUp", desc := "()V" } : Jvm.MethodName) prog_2_method_8_code (2 : Nat) (Option.none : Option Jvm.ClassFile.FieldType)) ∈ allw := allw_of (List.mem_append_right _ (List.mem_of_getElem? (i := 379) (by decide +kernel))) (by decide +kernel)
theorem wd_380 : (Cond.methodLink "PlaceFinder$Paper" (68 : Nat) ({ cls := "PlaceFinder$Paper", name := "isLight", desc := "(I)Z" } : Jvm.MethodName)) ∈ allw := allw_of (List.mem_append_right _ (List.mem_of_getElem? (i := 380) (by decide +kernel))) (by decide +kernel)
theorem wd_382 : (Cond.instanceMethod ({ cls := "PlaceFinder$Paper", name := "isLight", desc := "(I)Z" } : Jvm.MethodName)) ∈ allw := allw_of (List.mem_append_right _ (List.mem_of_getElem? (i := 382) (by decide +kernel))) (by decide +kernel)
theorem wd_383 : (Cond.code ({ cls := "PlaceFinder$Paper", name := "isLight", desc := "(I)Z" } : Jvm.MethodName) prog_2_method_9_code (5 : Nat) (Option.some Jvm.ClassFile.FieldType.boolean)) ∈ allw := allw_of (List.mem_append_right _ (List.mem_of_getElem? (i := 383) (by decide +kernel))) (by decide +kernel)
theorem wd_384 : (Cond.methodLink "PlaceFinder$Paper" (72 : Nat) ({ cls := "java/lang/System", name := "arraycopy", desc := "(Ljava/lang/Object;ILjava/lang/Object;II)V" } : Jvm.MethodName)) ∈ allw := allw_of (List.mem_append_right _ (List.mem_of_getElem? (i := 384) (by decide +kernel))) (by decide +kernel)
theorem wd_385 : (Cond.static ({ cls := "java/lang/System", name := "arraycopy", desc := "(Ljava/lang/Object;ILjava/lang/Object;II)V" } : Jvm.MethodName)) ∈ allw := allw_of (List.mem_append_right _ (List.mem_of_getElem? (i := 385) (by decide +kernel))) (by decide +kernel)
theorem wd_386 : (Cond.native ({ cls := "java/lang/System", name := "arraycopy", desc := "(Ljava/lang/Object;ILjava/lang/Object;II)V" } : Jvm.MethodName)) ∈ allw := allw_of (List.mem_append_right _ (List.mem_of_getElem? (i := 386) (by decide +kernel))) (by decide +kernel)
theorem wd_387 : (Cond.methodLink "PlaceFinder$Paper" (78 : Nat) ({ cls := "PlaceFinder$Paper", name := "addUpRow", desc := "(I)V" } : Jvm.MethodName)) ∈ allw := allw_of (List.mem_append_right _ (List.mem_of_getElem? (i := 387) (by decide +kernel))) (by decide +kernel)
theorem wd_389 : (Cond.instanceMethod ({ cls := "PlaceFinder$Paper", name := "addUpRow", desc := "(I)V" } : Jvm.MethodName)) ∈ allw := allw_of (List.mem_append_right _ (List.mem_of_getElem? (i := 389) (by decide +kernel))) (by decide +kernel)
theorem wd_390 : (Cond.code ({ cls := "PlaceFinder$Paper", name := "addUpRow", desc := "(I)V" } : Jvm.MethodName) prog_2_method_10_code (6 : Nat) (Option.none : Option Jvm.ClassFile.FieldType)) ∈ allw := allw_of (List.mem_append_right _ (List.mem_of_getElem? (i := 390) (by decide +kernel))) (by decide +kernel)
theorem wd_391 : (Cond.methodLink "PlaceFinder" (109 : Nat) ({ cls := "PlaceFinder$Search", name := "look", desc := "(III)Z" } : Jvm.MethodName)) ∈ allw := allw_of (List.mem_append_right _ (List.mem_of_getElem? (i := 391) (by decide +kernel))) (by decide +kernel)
theorem wd_392 : (Cond.instanceMethod ({ cls := "PlaceFinder$Search", name := "look", desc := "(III)Z" } : Jvm.MethodName)) ∈ allw := allw_of (List.mem_append_right _ (List.mem_of_getElem? (i := 392) (by decide +kernel))) (by decide +kernel)
theorem wd_393 : (Cond.selects "PlaceFinder$Search" ({ cls := "PlaceFinder$Search", name := "look", desc := "(III)Z" } : Jvm.MethodName) ({ cls := "PlaceFinder$Search", name := "look", desc := "(III)Z" } : Jvm.MethodName)) ∈ allw := allw_of (List.mem_append_right _ (List.mem_of_getElem? (i := 393) (by decide +kernel))) (by decide +kernel)
theorem wd_394 : (Cond.code ({ cls := "PlaceFinder$Search", name := "look", desc := "(III)Z" } : Jvm.MethodName) prog_5_method_2_code (6 : Nat) (Option.some Jvm.ClassFile.FieldType.boolean)) ∈ allw := allw_of (List.mem_append_right _ (List.mem_of_getElem? (i := 394) (by decide +kernel))) (by decide +kernel)
theorem wd_395 : (Cond.methodLink "PlaceFinder$Search" (34 : Nat) ({ cls := "PlaceFinder$PlaceList", name := "clear", desc := "()V" } : Jvm.MethodName)) ∈ allw := allw_of (List.mem_append_right _ (List.mem_of_getElem? (i := 395) (by decide +kernel))) (by decide +kernel)
theorem wd_396 : (Cond.methodLink "PlaceFinder$Search" (54 : Nat) ({ cls := "java/lang/Math", name := "min", desc := "(II)I" } : Jvm.MethodName)) ∈ allw := allw_of (List.mem_append_right _ (List.mem_of_getElem? (i := 396) (by decide +kernel))) (by decide +kernel)
theorem wd_397 : (Cond.methodLink "PlaceFinder$Search" (60 : Nat) ({ cls := "PlaceFinder$Place", name := "sizeOf", desc := "(I)I" } : Jvm.MethodName)) ∈ allw := allw_of (List.mem_append_right _ (List.mem_of_getElem? (i := 397) (by decide +kernel))) (by decide +kernel)
theorem wd_398 : (Cond.methodLink "PlaceFinder$Search" (72 : Nat) ({ cls := "PlaceFinder$Search", name := "siftFinders", desc := "(IIIII)V" } : Jvm.MethodName)) ∈ allw := allw_of (List.mem_append_right _ (List.mem_of_getElem? (i := 398) (by decide +kernel))) (by decide +kernel)
theorem wd_400 : (Cond.instanceMethod ({ cls := "PlaceFinder$Search", name := "siftFinders", desc := "(IIIII)V" } : Jvm.MethodName)) ∈ allw := allw_of (List.mem_append_right _ (List.mem_of_getElem? (i := 400) (by decide +kernel))) (by decide +kernel)
theorem wd_401 : (Cond.code ({ cls := "PlaceFinder$Search", name := "siftFinders", desc := "(IIIII)V" } : Jvm.MethodName) prog_5_method_3_code (8 : Nat) (Option.none : Option Jvm.ClassFile.FieldType)) ∈ allw := allw_of (List.mem_append_right _ (List.mem_of_getElem? (i := 401) (by decide +kernel))) (by decide +kernel)
theorem wd_402 : (Cond.methodLink "PlaceFinder$Search" (76 : Nat) ({ cls := "PlaceFinder$Search", name := "takeTile", desc := "(IIII)V" } : Jvm.MethodName)) ∈ allw := allw_of (List.mem_append_right _ (List.mem_of_getElem? (i := 402) (by decide +kernel))) (by decide +kernel)
theorem wd_404 : (Cond.instanceMethod ({ cls := "PlaceFinder$Search", name := "takeTile", desc := "(IIII)V" } : Jvm.MethodName)) ∈ allw := allw_of (List.mem_append_right _ (List.mem_of_getElem? (i := 404) (by decide +kernel))) (by decide +kernel)
theorem wd_405 : (Cond.code ({ cls := "PlaceFinder$Search", name := "takeTile", desc := "(IIII)V" } : Jvm.MethodName) prog_5_method_8_code (5 : Nat) (Option.none : Option Jvm.ClassFile.FieldType)) ∈ allw := allw_of (List.mem_append_right _ (List.mem_of_getElem? (i := 405) (by decide +kernel))) (by decide +kernel)
theorem wd_406 : (Cond.methodLink "PlaceFinder$Search" (80 : Nat) ({ cls := "PlaceFinder$Search", name := "finderFloor", desc := "(II)I" } : Jvm.MethodName)) ∈ allw := allw_of (List.mem_append_right _ (List.mem_of_getElem? (i := 406) (by decide +kernel))) (by decide +kernel)
theorem wd_408 : (Cond.instanceMethod ({ cls := "PlaceFinder$Search", name := "finderFloor", desc := "(II)I" } : Jvm.MethodName)) ∈ allw := allw_of (List.mem_append_right _ (List.mem_of_getElem? (i := 408) (by decide +kernel))) (by decide +kernel)
theorem wd_409 : (Cond.code ({ cls := "PlaceFinder$Search", name := "finderFloor", desc := "(II)I" } : Jvm.MethodName) prog_5_method_16_code (7 : Nat) (Option.some Jvm.ClassFile.FieldType.int)) ∈ allw := allw_of (List.mem_append_right _ (List.mem_of_getElem? (i := 409) (by decide +kernel))) (by decide +kernel)
theorem wd_410 : (Cond.methodLink "PlaceFinder$Search" (169 : Nat) ({ cls := "PlaceFinder$Search", name := "mostDark", desc := "(IIII)I" } : Jvm.MethodName)) ∈ allw := allw_of (List.mem_append_right _ (List.mem_of_getElem? (i := 410) (by decide +kernel))) (by decide +kernel)
theorem wd_412 : (Cond.instanceMethod ({ cls := "PlaceFinder$Search", name := "mostDark", desc := "(IIII)I" } : Jvm.MethodName)) ∈ allw := allw_of (List.mem_append_right _ (List.mem_of_getElem? (i := 412) (by decide +kernel))) (by decide +kernel)
theorem wd_413 : (Cond.code ({ cls := "PlaceFinder$Search", name := "mostDark", desc := "(IIII)I" } : Jvm.MethodName) prog_5_method_23_code (9 : Nat) (Option.some Jvm.ClassFile.FieldType.int)) ∈ allw := allw_of (List.mem_append_right _ (List.mem_of_getElem? (i := 413) (by decide +kernel))) (by decide +kernel)
theorem wd_414 : (Cond.methodLink "PlaceFinder$Search" (165 : Nat) ({ cls := "PlaceFinder$Paper", name := "countSummed", desc := "(IIII)I" } : Jvm.MethodName)) ∈ allw := allw_of (List.mem_append_right _ (List.mem_of_getElem? (i := 414) (by decide +kernel))) (by decide +kernel)
theorem wd_415 : (Cond.instanceMethod ({ cls := "PlaceFinder$Paper", name := "countSummed", desc := "(IIII)I" } : Jvm.MethodName)) ∈ allw := allw_of (List.mem_append_right _ (List.mem_of_getElem? (i := 415) (by decide +kernel))) (by decide +kernel)
theorem wd_416 : (Cond.selects "PlaceFinder$Paper" ({ cls := "PlaceFinder$Paper", name := "countSummed", desc := "(IIII)I" } : Jvm.MethodName) ({ cls := "PlaceFinder$Paper", name := "countSummed", desc := "(IIII)I" } : Jvm.MethodName)) ∈ allw := allw_of (List.mem_append_right _ (List.mem_of_getElem? (i := 416) (by decide +kernel))) (by decide +kernel)
theorem wd_417 : (Cond.code ({ cls := "PlaceFinder$Paper", name := "countSummed", desc := "(IIII)I" } : Jvm.MethodName) prog_2_method_11_code (7 : Nat) (Option.some Jvm.ClassFile.FieldType.int)) ∈ allw := allw_of (List.mem_append_right _ (List.mem_of_getElem? (i := 417) (by decide +kernel))) (by decide +kernel)
theorem wd_418 : (Cond.methodLink "PlaceFinder$Search" (83 : Nat) ({ cls := "PlaceFinder$Search", name := "isSingle", desc := "()Z" } : Jvm.MethodName)) ∈ allw := allw_of (List.mem_append_right _ (List.mem_of_getElem? (i := 418) (by decide +kernel))) (by decide +kernel)
theorem wd_420 : (Cond.instanceMethod ({ cls := "PlaceFinder$Search", name := "isSingle", desc := "()Z" } : Jvm.MethodName)) ∈ allw := allw_of (List.mem_append_right _ (List.mem_of_getElem? (i := 420) (by decide +kernel))) (by decide +kernel)
theorem wd_421 : (Cond.code ({ cls := "PlaceFinder$Search", name := "isSingle", desc := "()Z" } : Jvm.MethodName) prog_5_method_9_code (1 : Nat) (Option.some Jvm.ClassFile.FieldType.boolean)) ∈ allw := allw_of (List.mem_append_right _ (List.mem_of_getElem? (i := 421) (by decide +kernel))) (by decide +kernel)
theorem wd_422 : (Cond.methodLink "PlaceFinder$Search" (108 : Nat) ({ cls := "java/lang/Math", name := "max", desc := "(II)I" } : Jvm.MethodName)) ∈ allw := allw_of (List.mem_append_right _ (List.mem_of_getElem? (i := 422) (by decide +kernel))) (by decide +kernel)
theorem wd_423 : (Cond.methodLink "PlaceFinder$Search" (172 : Nat) ({ cls := "PlaceFinder$Search", name := "leastDark", desc := "(IIII)I" } : Jvm.MethodName)) ∈ allw := allw_of (List.mem_append_right _ (List.mem_of_getElem? (i := 423) (by decide +kernel))) (by decide +kernel)
theorem wd_425 : (Cond.instanceMethod ({ cls := "PlaceFinder$Search", name := "leastDark", desc := "(IIII)I" } : Jvm.MethodName)) ∈ allw := allw_of (List.mem_append_right _ (List.mem_of_getElem? (i := 425) (by decide +kernel))) (by decide +kernel)
theorem wd_426 : (Cond.code ({ cls := "PlaceFinder$Search", name := "leastDark", desc := "(IIII)I" } : Jvm.MethodName) prog_5_method_24_code (8 : Nat) (Option.some Jvm.ClassFile.FieldType.int)) ∈ allw := allw_of (List.mem_append_right _ (List.mem_of_getElem? (i := 426) (by decide +kernel))) (by decide +kernel)
theorem wd_427 : (Cond.methodLink "PlaceFinder$Search" (87 : Nat) ({ cls := "PlaceFinder$Search", name := "isAlike", desc := "(III)Z" } : Jvm.MethodName)) ∈ allw := allw_of (List.mem_append_right _ (List.mem_of_getElem? (i := 427) (by decide +kernel))) (by decide +kernel)
theorem wd_429 : (Cond.instanceMethod ({ cls := "PlaceFinder$Search", name := "isAlike", desc := "(III)Z" } : Jvm.MethodName)) ∈ allw := allw_of (List.mem_append_right _ (List.mem_of_getElem? (i := 429) (by decide +kernel))) (by decide +kernel)
theorem wd_430 : (Cond.code ({ cls := "PlaceFinder$Search", name := "isAlike", desc := "(III)Z" } : Jvm.MethodName) prog_5_method_10_code (7 : Nat) (Option.some Jvm.ClassFile.FieldType.boolean)) ∈ allw := allw_of (List.mem_append_right _ (List.mem_of_getElem? (i := 430) (by decide +kernel))) (by decide +kernel)
theorem wd_431 : (Cond.methodLink "PlaceFinder$Search" (91 : Nat) ({ cls := "PlaceFinder$Search", name := "siftVersions", desc := "(IIII)V" } : Jvm.MethodName)) ∈ allw := allw_of (List.mem_append_right _ (List.mem_of_getElem? (i := 431) (by decide +kernel))) (by decide +kernel)
theorem wd_433 : (Cond.instanceMethod ({ cls := "PlaceFinder$Search", name := "siftVersions", desc := "(IIII)V" } : Jvm.MethodName)) ∈ allw := allw_of (List.mem_append_right _ (List.mem_of_getElem? (i := 433) (by decide +kernel))) (by decide +kernel)
theorem wd_434 : (Cond.code ({ cls := "PlaceFinder$Search", name := "siftVersions", desc := "(IIII)V" } : Jvm.MethodName) prog_5_method_4_code (17 : Nat) (Option.none : Option Jvm.ClassFile.FieldType)) ∈ allw := allw_of (List.mem_append_right _ (List.mem_of_getElem? (i := 434) (by decide +kernel))) (by decide +kernel)
theorem wd_435 : (Cond.methodLink "PlaceFinder$Search" (94 : Nat) ({ cls := "PlaceFinder$Search", name := "cornerWrong", desc := "(III)I" } : Jvm.MethodName)) ∈ allw := allw_of (List.mem_append_right _ (List.mem_of_getElem? (i := 435) (by decide +kernel))) (by decide +kernel)
theorem wd_437 : (Cond.instanceMethod ({ cls := "PlaceFinder$Search", name := "cornerWrong", desc := "(III)I" } : Jvm.MethodName)) ∈ allw := allw_of (List.mem_append_right _ (List.mem_of_getElem? (i := 437) (by decide +kernel))) (by decide +kernel)
theorem wd_438 : (Cond.code ({ cls := "PlaceFinder$Search", name := "cornerWrong", desc := "(III)I" } : Jvm.MethodName) prog_5_method_15_code (11 : Nat) (Option.some Jvm.ClassFile.FieldType.int)) ∈ allw := allw_of (List.mem_append_right _ (List.mem_of_getElem? (i := 438) (by decide +kernel))) (by decide +kernel)
theorem wd_439 : (Cond.methodLink "PlaceFinder$Search" (101 : Nat) ({ cls := "PlaceFinder$Search", name := "isRight", desc := "(I)Z" } : Jvm.MethodName)) ∈ allw := allw_of (List.mem_append_right _ (List.mem_of_getElem? (i := 439) (by decide +kernel))) (by decide +kernel)
theorem wd_440 : (Cond.static ({ cls := "PlaceFinder$Search", name := "isRight", desc := "(I)Z" } : Jvm.MethodName)) ∈ allw := allw_of (List.mem_append_right _ (List.mem_of_getElem? (i := 440) (by decide +kernel))) (by decide +kernel)
theorem wd_441 : (Cond.code ({ cls := "PlaceFinder$Search", name := "isRight", desc := "(I)Z" } : Jvm.MethodName) prog_5_method_11_code (1 : Nat) (Option.some Jvm.ClassFile.FieldType.boolean)) ∈ allw := allw_of (List.mem_append_right _ (List.mem_of_getElem? (i := 441) (by decide +kernel))) (by decide +kernel)
theorem wd_442 : (Cond.methodLink "PlaceFinder$Search" (105 : Nat) ({ cls := "PlaceFinder$Search", name := "isLow", desc := "(I)Z" } : Jvm.MethodName)) ∈ allw := allw_of (List.mem_append_right _ (List.mem_of_getElem? (i := 442) (by decide +kernel))) (by decide +kernel)
theorem wd_443 : (Cond.static ({ cls := "PlaceFinder$Search", name := "isLow", desc := "(I)Z" } : Jvm.MethodName)) ∈ allw := allw_of (List.mem_append_right _ (List.mem_of_getElem? (i := 443) (by decide +kernel))) (by decide +kernel)
theorem wd_444 : (Cond.code ({ cls := "PlaceFinder$Search", name := "isLow", desc := "(I)Z" } : Jvm.MethodName) prog_5_method_12_code (1 : Nat) (Option.some Jvm.ClassFile.FieldType.boolean)) ∈ allw := allw_of (List.mem_append_right _ (List.mem_of_getElem? (i := 444) (by decide +kernel))) (by decide +kernel)
theorem wd_445 : (Cond.methodLink "PlaceFinder$Search" (111 : Nat) ({ cls := "PlaceFinder$Search", name := "siftPlaces", desc := "(IIIIIII)V" } : Jvm.MethodName)) ∈ allw := allw_of (List.mem_append_right _ (List.mem_of_getElem? (i := 445) (by decide +kernel))) (by decide +kernel)
theorem wd_447 : (Cond.instanceMethod ({ cls := "PlaceFinder$Search", name := "siftPlaces", desc := "(IIIIIII)V" } : Jvm.MethodName)) ∈ allw := allw_of (List.mem_append_right _ (List.mem_of_getElem? (i := 447) (by decide +kernel))) (by decide +kernel)
theorem wd_448 : (Cond.code ({ cls := "PlaceFinder$Search", name := "siftPlaces", desc := "(IIIIIII)V" } : Jvm.MethodName) prog_5_method_5_code (18 : Nat) (Option.none : Option Jvm.ClassFile.FieldType)) ∈ allw := allw_of (List.mem_append_right _ (List.mem_of_getElem? (i := 448) (by decide +kernel))) (by decide +kernel)
theorem wd_449 : (Cond.methodLink "PlaceFinder$Search" (115 : Nat) ({ cls := "java/util/Arrays", name := "fill", desc := "([II)V" } : Jvm.MethodName)) ∈ allw := allw_of (List.mem_append_right _ (List.mem_of_getElem? (i := 449) (by decide +kernel))) (by decide +kernel)
theorem wd_450 : (Cond.static ({ cls := "java/util/Arrays", name := "fill", desc := "([II)V" } : Jvm.MethodName)) ∈ allw := allw_of (List.mem_append_right _ (List.mem_of_getElem? (i := 450) (by decide +kernel))) (by decide +kernel)
theorem wd_451 : (Cond.code ({ cls := "java/util/Arrays", name := "fill", desc := "([II)V" } : Jvm.MethodName) prog_17_method_103_code (4 : Nat) (Option.none : Option Jvm.ClassFile.FieldType)) ∈ allw := allw_of (List.mem_append_right _ (List.mem_of_getElem? (i := 451) (by decide +kernel))) (by decide +kernel)
theorem wd_452 : (Cond.methodLink "PlaceFinder$Search" (121 : Nat) ({ cls := "PlaceFinder$Search", name := "finderX", desc := "(I)I" } : Jvm.MethodName)) ∈ allw := allw_of (List.mem_append_right _ (List.mem_of_getElem? (i := 452) (by decide +kernel))) (by decide +kernel)
theorem wd_454 : (Cond.instanceMethod ({ cls := "PlaceFinder$Search", name := "finderX", desc := "(I)I" } : Jvm.MethodName)) ∈ allw := allw_of (List.mem_append_right _ (List.mem_of_getElem? (i := 454) (by decide +kernel))) (by decide +kernel)
theorem wd_455 : (Cond.code ({ cls := "PlaceFinder$Search", name := "finderX", desc := "(I)I" } : Jvm.MethodName) prog_5_method_13_code (2 : Nat) (Option.some Jvm.ClassFile.FieldType.int)) ∈ allw := allw_of (List.mem_append_right _ (List.mem_of_getElem? (i := 455) (by decide +kernel))) (by decide +kernel)
theorem wd_456 : (Cond.methodLink "PlaceFinder$Search" (124 : Nat) ({ cls := "PlaceFinder$Search", name := "finderY", desc := "(I)I" } : Jvm.MethodName)) ∈ allw := allw_of (List.mem_append_right _ (List.mem_of_getElem? (i := 456) (by decide +kernel))) (by decide +kernel)
theorem wd_458 : (Cond.instanceMethod ({ cls := "PlaceFinder$Search", name := "finderY", desc := "(I)I" } : Jvm.MethodName)) ∈ allw := allw_of (List.mem_append_right _ (List.mem_of_getElem? (i := 458) (by decide +kernel))) (by decide +kernel)
theorem wd_459 : (Cond.code ({ cls := "PlaceFinder$Search", name := "finderY", desc := "(I)I" } : Jvm.MethodName) prog_5_method_14_code (2 : Nat) (Option.some Jvm.ClassFile.FieldType.int)) ∈ allw := allw_of (List.mem_append_right _ (List.mem_of_getElem? (i := 459) (by decide +kernel))) (by decide +kernel)
theorem wd_460 : (Cond.methodLink "PlaceFinder$Search" (127 : Nat) ({ cls := "PlaceFinder$Search", name := "borderFloor", desc := "(III)I" } : Jvm.MethodName)) ∈ allw := allw_of (List.mem_append_right _ (List.mem_of_getElem? (i := 460) (by decide +kernel))) (by decide +kernel)
theorem wd_462 : (Cond.instanceMethod ({ cls := "PlaceFinder$Search", name := "borderFloor", desc := "(III)I" } : Jvm.MethodName)) ∈ allw := allw_of (List.mem_append_right _ (List.mem_of_getElem? (i := 462) (by decide +kernel))) (by decide +kernel)
theorem wd_463 : (Cond.code ({ cls := "PlaceFinder$Search", name := "borderFloor", desc := "(III)I" } : Jvm.MethodName) prog_5_method_17_code (7 : Nat) (Option.some Jvm.ClassFile.FieldType.int)) ∈ allw := allw_of (List.mem_append_right _ (List.mem_of_getElem? (i := 463) (by decide +kernel))) (by decide +kernel)
theorem wd_464 : (Cond.methodLink "PlaceFinder$Search" (130 : Nat) ({ cls := "PlaceFinder$Search", name := "withCorner", desc := "(III)I" } : Jvm.MethodName)) ∈ allw := allw_of (List.mem_append_right _ (List.mem_of_getElem? (i := 464) (by decide +kernel))) (by decide +kernel)
theorem wd_466 : (Cond.instanceMethod ({ cls := "PlaceFinder$Search", name := "withCorner", desc := "(III)I" } : Jvm.MethodName)) ∈ allw := allw_of (List.mem_append_right _ (List.mem_of_getElem? (i := 466) (by decide +kernel))) (by decide +kernel)
theorem wd_467 : (Cond.code ({ cls := "PlaceFinder$Search", name := "withCorner", desc := "(III)I" } : Jvm.MethodName) prog_5_method_6_code (7 : Nat) (Option.some Jvm.ClassFile.FieldType.int)) ∈ allw := allw_of (List.mem_append_right _ (List.mem_of_getElem? (i := 467) (by decide +kernel))) (by decide +kernel)
theorem wd_468 : (Cond.methodLink "PlaceFinder$Search" (133 : Nat) ({ cls := "PlaceFinder$Search", name := "spotFloor", desc := "(I)I" } : Jvm.MethodName)) ∈ allw := allw_of (List.mem_append_right _ (List.mem_of_getElem? (i := 468) (by decide +kernel))) (by decide +kernel)
theorem wd_470 : (Cond.instanceMethod ({ cls := "PlaceFinder$Search", name := "spotFloor", desc := "(I)I" } : Jvm.MethodName)) ∈ allw := allw_of (List.mem_append_right _ (List.mem_of_getElem? (i := 470) (by decide +kernel))) (by decide +kernel)
theorem wd_471 : (Cond.code ({ cls := "PlaceFinder$Search", name := "spotFloor", desc := "(I)I" } : Jvm.MethodName) prog_5_method_22_code (4 : Nat) (Option.some Jvm.ClassFile.FieldType.int)) ∈ allw := allw_of (List.mem_append_right _ (List.mem_of_getElem? (i := 471) (by decide +kernel))) (by decide +kernel)
theorem wd_472 : (Cond.methodLink "PlaceFinder$Search" (136 : Nat) ({ cls := "PlaceFinder$Search", name := "lineFloor", desc := "(I)I" } : Jvm.MethodName)) ∈ allw := allw_of (List.mem_append_right _ (List.mem_of_getElem? (i := 472) (by decide +kernel))) (by decide +kernel)
theorem wd_474 : (Cond.instanceMethod ({ cls := "PlaceFinder$Search", name := "lineFloor", desc := "(I)I" } : Jvm.MethodName)) ∈ allw := allw_of (List.mem_append_right _ (List.mem_of_getElem? (i := 474) (by decide +kernel))) (by decide +kernel)
theorem wd_475 : (Cond.code ({ cls := "PlaceFinder$Search", name := "lineFloor", desc := "(I)I" } : Jvm.MethodName) prog_5_method_18_code (9 : Nat) (Option.some Jvm.ClassFile.FieldType.int)) ∈ allw := allw_of (List.mem_append_right _ (List.mem_of_getElem? (i := 475) (by decide +kernel))) (by decide +kernel)
theorem wd_476 : (Cond.methodLink "PlaceFinder$Search" (175 : Nat) ({ cls := "PlaceFinder$Search", name := "lineX", desc := "(I)I" } : Jvm.MethodName)) ∈ allw := allw_of (List.mem_append_right _ (List.mem_of_getElem? (i := 476) (by decide +kernel))) (by decide +kernel)
theorem wd_478 : (Cond.instanceMethod ({ cls := "PlaceFinder$Search", name := "lineX", desc := "(I)I" } : Jvm.MethodName)) ∈ allw := allw_of (List.mem_append_right _ (List.mem_of_getElem? (i := 478) (by decide +kernel))) (by decide +kernel)
theorem wd_479 : (Cond.code ({ cls := "PlaceFinder$Search", name := "lineX", desc := "(I)I" } : Jvm.MethodName) prog_5_method_20_code (2 : Nat) (Option.some Jvm.ClassFile.FieldType.int)) ∈ allw := allw_of (List.mem_append_right _ (List.mem_of_getElem? (i := 479) (by decide +kernel))) (by decide +kernel)
theorem wd_480 : (Cond.methodLink "PlaceFinder$Search" (178 : Nat) ({ cls := "PlaceFinder$Search", name := "lineY", desc := "(I)I" } : Jvm.MethodName)) ∈ allw := allw_of (List.mem_append_right _ (List.mem_of_getElem? (i := 480) (by decide +kernel))) (by decide +kernel)
theorem wd_482 : (Cond.instanceMethod ({ cls := "PlaceFinder$Search", name := "lineY", desc := "(I)I" } : Jvm.MethodName)) ∈ allw := allw_of (List.mem_append_right _ (List.mem_of_getElem? (i := 482) (by decide +kernel))) (by decide +kernel)
theorem wd_483 : (Cond.code ({ cls := "PlaceFinder$Search", name := "lineY", desc := "(I)I" } : Jvm.MethodName) prog_5_method_21_code (2 : Nat) (Option.some Jvm.ClassFile.FieldType.int)) ∈ allw := allw_of (List.mem_append_right _ (List.mem_of_getElem? (i := 483) (by decide +kernel))) (by decide +kernel)
theorem wd_484 : (Cond.methodLink "PlaceFinder$Search" (139 : Nat) ({ cls := "PlaceFinder$Search", name := "judge", desc := "(I)V" } : Jvm.MethodName)) ∈ allw := allw_of (List.mem_append_right _ (List.mem_of_getElem? (i := 484) (by decide +kernel))) (by decide +kernel)
theorem wd_486 : (Cond.instanceMethod ({ cls := "PlaceFinder$Search", name := "judge", desc := "(I)V" } : Jvm.MethodName)) ∈ allw := allw_of (List.mem_append_right _ (List.mem_of_getElem? (i := 486) (by decide +kernel))) (by decide +kernel)
theorem wd_487 : (Cond.code ({ cls := "PlaceFinder$Search", name := "judge", desc := "(I)V" } : Jvm.MethodName) prog_5_method_7_code (6 : Nat) (Option.none : Option Jvm.ClassFile.FieldType)) ∈ allw := allw_of (List.mem_append_right _ (List.mem_of_getElem? (i := 487) (by decide +kernel))) (by decide +kernel)
theorem wd_488 : (Cond.methodLink "PlaceFinder$Search" (143 : Nat) ({ cls := "PlaceFinder$Search", name := "withLine", desc := "(II)I" } : Jvm.MethodName)) ∈ allw := allw_of (List.mem_append_right _ (List.mem_of_getElem? (i := 488) (by decide +kernel))) (by decide +kernel)
theorem wd_490 : (Cond.instanceMethod ({ cls := "PlaceFinder$Search", name := "withLine", desc := "(II)I" } : Jvm.MethodName)) ∈ allw := allw_of (List.mem_append_right _ (List.mem_of_getElem? (i := 490) (by decide +kernel))) (by decide +kernel)
theorem wd_491 : (Cond.code ({ cls := "PlaceFinder$Search", name := "withLine", desc := "(II)I" } : Jvm.MethodName) prog_5_method_19_code (11 : Nat) (Option.some Jvm.ClassFile.FieldType.int)) ∈ allw := allw_of (List.mem_append_right _ (List.mem_of_getElem? (i := 491) (by decide +kernel))) (by decide +kernel)
theorem wd_492 : (Cond.methodLink "PlaceFinder$Search" (152 : Nat) ({ cls := "PlaceFinder$Place", name := "keyOf", desc := "(III)I" } : Jvm.MethodName)) ∈ allw := allw_of (List.mem_append_right _ (List.mem_of_getElem? (i := 492) (by decide +kernel))) (by decide +kernel)
theorem wd_493 : (Cond.methodLink "PlaceFinder$Search" (155 : Nat) ({ cls := "PlaceFinder$PlaceList", name := "add", desc := "(II)Z" } : Jvm.MethodName)) ∈ allw := allw_of (List.mem_append_right _ (List.mem_of_getElem? (i := 493) (by decide +kernel))) (by decide +kernel)
theorem wd_494 : (Cond.instanceMethod ({ cls := "PlaceFinder$PlaceList", name := "add", desc := "(II)Z" } : Jvm.MethodName)) ∈ allw := allw_of (List.mem_append_right _ (List.mem_of_getElem? (i := 494) (by decide +kernel))) (by decide +kernel)
theorem wd_495 : (Cond.selects "PlaceFinder$PlaceList" ({ cls := "PlaceFinder$PlaceList", name := "add", desc := "(II)Z" } : Jvm.MethodName) ({ cls := "PlaceFinder$PlaceList", name := "add", desc := "(II)Z" } : Jvm.MethodName)) ∈ allw := allw_of (List.mem_append_right _ (List.mem_of_getElem? (i := 495) (by decide +kernel))) (by decide +kernel)
theorem wd_496 : (Cond.code ({ cls := "PlaceFinder$PlaceList", name := "add", desc := "(II)Z" } : Jvm.MethodName) prog_4_method_3_code (4 : Nat) (Option.some Jvm.ClassFile.FieldType.boolean)) ∈ allw := allw_of (List.mem_append_right _ (List.mem_of_getElem? (i := 496) (by decide +kernel))) (by decide +kernel)
theorem wd_497 : (Cond.methodLink "PlaceFinder" (112 : Nat) ({ cls := "PlaceFinder$PlaceList", name := "takeLeaders", desc := "(LPlaceFinder$PlaceList;)V" } : Jvm.MethodName)) ∈ allw := allw_of (List.mem_append_right _ (List.mem_of_getElem? (i := 497) (by decide +kernel))) (by decide +kernel)
theorem wd_498 : (Cond.instanceMethod ({ cls := "PlaceFinder$PlaceList", name := "takeLeaders", desc := "(LPlaceFinder$PlaceList;)V" } : Jvm.MethodName)) ∈ allw := allw_of (List.mem_append_right _ (List.mem_of_getElem? (i := 498) (by decide +kernel))) (by decide +kernel)
theorem wd_499 : (Cond.selects "PlaceFinder$PlaceList" ({ cls := "PlaceFinder$PlaceList", name := "takeLeaders", desc := "(LPlaceFinder$PlaceList;)V" } : Jvm.MethodName) ({ cls := "PlaceFinder$PlaceList", name := "takeLeaders", desc := "(LPlaceFinder$PlaceList;)V" } : Jvm.MethodName)) ∈ allw := allw_of (List.mem_append_right _ (List.mem_of_getElem? (i := 499) (by decide +kernel))) (by decide +kernel)
theorem wd_500 : (Cond.code ({ cls := "PlaceFinder$PlaceList", name := "takeLeaders", desc := "(LPlaceFinder$PlaceList;)V" } : Jvm.MethodName) prog_4_method_4_code (3 : Nat) (Option.none : Option Jvm.ClassFile.FieldType)) ∈ allw := allw_of (List.mem_append_right _ (List.mem_of_getElem? (i := 500) (by decide +kernel))) (by decide +kernel)
theorem wd_501 : (Cond.methodLink "PlaceFinder$PlaceList" (22 : Nat) ({ cls := "PlaceFinder$PlaceList", name := "clear", desc := "()V" } : Jvm.MethodName)) ∈ allw := allw_of (List.mem_append_right _ (List.mem_of_getElem? (i := 501) (by decide +kernel))) (by decide +kernel)
theorem wd_502 : (Cond.methodLink "PlaceFinder$PlaceList" (25 : Nat) ({ cls := "PlaceFinder$PlaceList", name := "leads", desc := "(I)Z" } : Jvm.MethodName)) ∈ allw := allw_of (List.mem_append_right _ (List.mem_of_getElem? (i := 502) (by decide +kernel))) (by decide +kernel)
theorem wd_504 : (Cond.instanceMethod ({ cls := "PlaceFinder$PlaceList", name := "leads", desc := "(I)Z" } : Jvm.MethodName)) ∈ allw := allw_of (List.mem_append_right _ (List.mem_of_getElem? (i := 504) (by decide +kernel))) (by decide +kernel)
theorem wd_505 : (Cond.code ({ cls := "PlaceFinder$PlaceList", name := "leads", desc := "(I)Z" } : Jvm.MethodName) prog_4_method_5_code (3 : Nat) (Option.some Jvm.ClassFile.FieldType.boolean)) ∈ allw := allw_of (List.mem_append_right _ (List.mem_of_getElem? (i := 505) (by decide +kernel))) (by decide +kernel)
theorem wd_506 : (Cond.methodLink "PlaceFinder$PlaceList" (33 : Nat) ({ cls := "PlaceFinder$PlaceList", name := "isBetter", desc := "(II)Z" } : Jvm.MethodName)) ∈ allw := allw_of (List.mem_append_right _ (List.mem_of_getElem? (i := 506) (by decide +kernel))) (by decide +kernel)
theorem wd_508 : (Cond.instanceMethod ({ cls := "PlaceFinder$PlaceList", name := "isBetter", desc := "(II)Z" } : Jvm.MethodName)) ∈ allw := allw_of (List.mem_append_right _ (List.mem_of_getElem? (i := 508) (by decide +kernel))) (by decide +kernel)
theorem wd_509 : (Cond.code ({ cls := "PlaceFinder$PlaceList", name := "isBetter", desc := "(II)Z" } : Jvm.MethodName) prog_4_method_6_code (3 : Nat) (Option.some Jvm.ClassFile.FieldType.boolean)) ∈ allw := allw_of (List.mem_append_right _ (List.mem_of_getElem? (i := 509) (by decide +kernel))) (by decide +kernel)
theorem wd_510 : (Cond.methodLink "PlaceFinder$PlaceList" (36 : Nat) ({ cls := "PlaceFinder$Place", name := "haveCommonDot", desc := "(II)Z" } : Jvm.MethodName)) ∈ allw := allw_of (List.mem_append_right _ (List.mem_of_getElem? (i := 510) (by decide +kernel))) (by decide +kernel)
theorem wd_511 : (Cond.static ({ cls := "PlaceFinder$Place", name := "haveCommonDot", desc := "(II)Z" } : Jvm.MethodName)) ∈ allw := allw_of (List.mem_append_right _ (List.mem_of_getElem? (i := 511) (by decide +kernel))) (by decide +kernel)
theorem wd_512 : (Cond.code ({ cls := "PlaceFinder$Place", name := "haveCommonDot", desc := "(II)Z" } : Jvm.MethodName) prog_3_method_9_code (4 : Nat) (Option.some Jvm.ClassFile.FieldType.boolean)) ∈ allw := allw_of (List.mem_append_right _ (List.mem_of_getElem? (i := 512) (by decide +kernel))) (by decide +kernel)
theorem wd_513 : (Cond.methodLink "PlaceFinder$PlaceList" (29 : Nat) ({ cls := "PlaceFinder$PlaceList", name := "add", desc := "(II)Z" } : Jvm.MethodName)) ∈ allw := allw_of (List.mem_append_right _ (List.mem_of_getElem? (i := 513) (by decide +kernel))) (by decide +kernel)
theorem wd_514 : (Cond.methodLink "PlaceFinderLaw" (77 : Nat) ({ cls := "PlaceFinderLaw", name := "place", desc := "(LPlaceFinder;II[J)I" } : Jvm.MethodName)) ∈ allw := allw_of (List.mem_append_right _ (List.mem_of_getElem? (i := 514) (by decide +kernel))) (by decide +kernel)
theorem wd_515 : (Cond.static ({ cls := "PlaceFinderLaw", name := "place", desc := "(LPlaceFinder;II[J)I" } : Jvm.MethodName)) ∈ allw := allw_of (List.mem_append_right _ (List.mem_of_getElem? (i := 515) (by decide +kernel))) (by decide +kernel)
theorem wd_517 : (Cond.methodLink "PlaceFinderLaw" (26 : Nat) ({ cls := "PlaceFinder", name := "place", desc := "(II)I" } : Jvm.MethodName)) ∈ allw := allw_of (List.mem_append_right _ (List.mem_of_getElem? (i := 517) (by decide +kernel))) (by decide +kernel)
theorem wd_518 : (Cond.instanceMethod ({ cls := "PlaceFinder", name := "place", desc := "(II)I" } : Jvm.MethodName)) ∈ allw := allw_of (List.mem_append_right _ (List.mem_of_getElem? (i := 518) (by decide +kernel))) (by decide +kernel)
theorem wd_519 : (Cond.selects "PlaceFinder" ({ cls := "PlaceFinder", name := "place", desc := "(II)I" } : Jvm.MethodName) ({ cls := "PlaceFinder", name := "place", desc := "(II)I" } : Jvm.MethodName)) ∈ allw := allw_of (List.mem_append_right _ (List.mem_of_getElem? (i := 519) (by decide +kernel))) (by decide +kernel)
theorem wd_520 : (Cond.code ({ cls := "PlaceFinder", name := "place", desc := "(II)I" } : Jvm.MethodName) prog_1_method_9_code (4 : Nat) (Option.some Jvm.ClassFile.FieldType.int)) ∈ allw := allw_of (List.mem_append_right _ (List.mem_of_getElem? (i := 520) (by decide +kernel))) (by decide +kernel)
theorem wd_522 : (Cond.methodLink "PlaceFinder" (125 : Nat) ({ cls := "PlaceFinder$Place", name := "leftOf", desc := "(I)I" } : Jvm.MethodName)) ∈ allw := allw_of (List.mem_append_right _ (List.mem_of_getElem? (i := 522) (by decide +kernel))) (by decide +kernel)
theorem wd_523 : (Cond.methodLink "PlaceFinder" (128 : Nat) ({ cls := "PlaceFinder$Place", name := "topOf", desc := "(I)I" } : Jvm.MethodName)) ∈ allw := allw_of (List.mem_append_right _ (List.mem_of_getElem? (i := 523) (by decide +kernel))) (by decide +kernel)
theorem wd_524 : (Cond.methodLink "PlaceFinder" (131 : Nat) ({ cls := "PlaceFinder$Place", name := "quarterOf", desc := "(I)I" } : Jvm.MethodName)) ∈ allw := allw_of (List.mem_append_right _ (List.mem_of_getElem? (i := 524) (by decide +kernel))) (by decide +kernel)
theorem wd_525 : (Cond.methodLink "PlaceFinderLaw" (81 : Nat) ({ cls := "PlaceFinderLaw", name := "modules", desc := "(LPlaceFinder;III[J)I" } : Jvm.MethodName)) ∈ allw := allw_of (List.mem_append_right _ (List.mem_of_getElem? (i := 525) (by decide +kernel))) (by decide +kernel)
theorem wd_526 : (Cond.static ({ cls := "PlaceFinderLaw", name := "modules", desc := "(LPlaceFinder;III[J)I" } : Jvm.MethodName)) ∈ allw := allw_of (List.mem_append_right _ (List.mem_of_getElem? (i := 526) (by decide +kernel))) (by decide +kernel)
theorem wd_528 : (Cond.classLink "PlaceFinderLaw" (34 : Nat) "java/lang/IndexOutOfBoundsException") ∈ allw := allw_of (List.mem_append_right _ (List.mem_of_getElem? (i := 528) (by decide +kernel))) (by decide +kernel)
theorem wd_529 : (Cond.methodLink "PlaceFinderLaw" (30 : Nat) ({ cls := "PlaceFinder", name := "modules", desc := "(III)J" } : Jvm.MethodName)) ∈ allw := allw_of (List.mem_append_right _ (List.mem_of_getElem? (i := 529) (by decide +kernel))) (by decide +kernel)
theorem wd_530 : (Cond.instanceMethod ({ cls := "PlaceFinder", name := "modules", desc := "(III)J" } : Jvm.MethodName)) ∈ allw := allw_of (List.mem_append_right _ (List.mem_of_getElem? (i := 530) (by decide +kernel))) (by decide +kernel)
theorem wd_531 : (Cond.selects "PlaceFinder" ({ cls := "PlaceFinder", name := "modules", desc := "(III)J" } : Jvm.MethodName) ({ cls := "PlaceFinder", name := "modules", desc := "(III)J" } : Jvm.MethodName)) ∈ allw := allw_of (List.mem_append_right _ (List.mem_of_getElem? (i := 531) (by decide +kernel))) (by decide +kernel)
theorem wd_532 : (Cond.code ({ cls := "PlaceFinder", name := "modules", desc := "(III)J" } : Jvm.MethodName) prog_1_method_10_code (9 : Nat) (Option.some Jvm.ClassFile.FieldType.long)) ∈ allw := allw_of (List.mem_append_right _ (List.mem_of_getElem? (i := 532) (by decide +kernel))) (by decide +kernel)
theorem wd_533 : (Cond.classLink "PlaceFinder" (137 : Nat) "java/lang/IndexOutOfBoundsException") ∈ allw := allw_of (List.mem_append_right _ (List.mem_of_getElem? (i := 533) (by decide +kernel))) (by decide +kernel)
theorem wd_534 : (Cond.instantiable "java/lang/IndexOutOfBoundsException" (6 : Nat)) ∈ allw := allw_of (List.mem_append_right _ (List.mem_of_getElem? (i := 534) (by decide +kernel))) (by decide +kernel)
theorem wd_536 : (Cond.selects "java/lang/IndexOutOfBoundsException" ({ cls := "java/lang/Throwable", name := "fillInStackTrace", desc := "(I)Ljava/lang/Throwable;" } : Jvm.MethodName) ({ cls := "java/lang/Throwable", name := "fillInStackTrace", desc := "(I)Ljava/lang/Throwable;" } : Jvm.MethodName)) ∈ allw := allw_of (List.mem_append_right _ (List.mem_of_getElem? (i := 536) (by decide +kernel))) (by decide +kernel)
theorem wd_537 : (Cond.lays "java/lang/IndexOutOfBoundsException" "java/lang/Throwable" "cause" "Ljava/lang/Throwable;") ∈ allw := allw_of (List.mem_append_right _ (List.mem_of_getElem? (i := 537) (by decide +kernel))) (by decide +kernel)
theorem wd_538 : (Cond.lays "java/lang/IndexOutOfBoundsException" "java/lang/Throwable" "stackTrace" "[Ljava/lang/StackTraceElement;") ∈ allw := allw_of (List.mem_append_right _ (List.mem_of_getElem? (i := 538) (by decide +kernel))) (by decide +kernel)
theorem wd_539 : (Cond.lays "java/lang/IndexOutOfBoundsException" "java/lang/Throwable" "suppressedExceptions" "Ljava/util/List;") ∈ allw := allw_of (List.mem_append_right _ (List.mem_of_getElem? (i := 539) (by decide +kernel))) (by decide +kernel)
theorem wd_540 : (Cond.lays "java/lang/IndexOutOfBoundsException" "java/lang/Throwable" "detailMessage" "Ljava/lang/String;") ∈ allw := allw_of (List.mem_append_right _ (List.mem_of_getElem? (i := 540) (by decide +kernel))) (by decide +kernel)
theorem wd_541 : (Cond.lays "java/lang/IndexOutOfBoundsException" "java/lang/Throwable" "backtrace" "Ljava/lang/Object;") ∈ allw := allw_of (List.mem_append_right _ (List.mem_of_getElem? (i := 541) (by decide +kernel))) (by decide +kernel)
theorem wd_543 : (Cond.methodLink "PlaceFinder" (141 : Nat) ({ cls := "java/lang/IndexOutOfBoundsException", name := "<init>", desc := "(Ljava/lang/String;)V" } : Jvm.MethodName)) ∈ allw := allw_of (List.mem_append_right _ (List.mem_of_getElem? (i := 543) (by decide +kernel))) (by decide +kernel)
theorem wd_544 : (Cond.instanceMethod ({ cls := "java/lang/IndexOutOfBoundsException", name := "<init>", desc := "(Ljava/lang/String;)V" } : Jvm.MethodName)) ∈ allw := allw_of (List.mem_append_right _ (List.mem_of_getElem? (i := 544) (by decide +kernel))) (by decide +kernel)
theorem wd_545 : (Cond.code ({ cls := "java/lang/IndexOutOfBoundsException", name := "<init>", desc := "(Ljava/lang/String;)V" } : Jvm.MethodName) prog_10_method_2_code (2 : Nat) (Option.none : Option Jvm.ClassFile.FieldType)) ∈ allw := allw_of (List.mem_append_right _ (List.mem_of_getElem? (i := 545) (by decide +kernel))) (by decide +kernel)
theorem wd_546 : (Cond.methodLink "java/lang/IndexOutOfBoundsException" (7 : Nat) ({ cls := "java/lang/RuntimeException", name := "<init>", desc := "(Ljava/lang/String;)V" } : Jvm.MethodName)) ∈ allw := allw_of (List.mem_append_right _ (List.mem_of_getElem? (i := 546) (by decide +kernel))) (by decide +kernel)
theorem wd_547 : (Cond.lays "java/lang/IndexOutOfBoundsException" "java/lang/Throwable" "depth" "I") ∈ allw := allw_of (List.mem_append_right _ (List.mem_of_getElem? (i := 547) (by decide +kernel))) (by decide +kernel)
theorem wd_549 : (Cond.methodLink "PlaceFinder" (146 : Nat) ({ cls := "PlaceFinder", name := "isMostlyDark", desc := "(LPlaceFinder$Place;II)Z" } : Jvm.MethodName)) ∈ allw := allw_of (List.mem_append_right _ (List.mem_of_getElem? (i := 549) (by decide +kernel))) (by decide +kernel)
theorem wd_551 : (Cond.instanceMethod ({ cls := "PlaceFinder", name := "isMostlyDark", desc := "(LPlaceFinder$Place;II)Z" } : Jvm.MethodName)) ∈ allw := allw_of (List.mem_append_right _ (List.mem_of_getElem? (i := 551) (by decide +kernel))) (by decide +kernel)
theorem wd_552 : (Cond.code ({ cls := "PlaceFinder", name := "isMostlyDark", desc := "(LPlaceFinder$Place;II)Z" } : Jvm.MethodName) prog_1_method_12_code (6 : Nat) (Option.some Jvm.ClassFile.FieldType.boolean)) ∈ allw := allw_of (List.mem_append_right _ (List.mem_of_getElem? (i := 552) (by decide +kernel))) (by decide +kernel)
theorem wd_553 : (Cond.methodLink "PlaceFinder" (160 : Nat) ({ cls := "PlaceFinder$Paper", name := "countNow", desc := "(IIII)I" } : Jvm.MethodName)) ∈ allw := allw_of (List.mem_append_right _ (List.mem_of_getElem? (i := 553) (by decide +kernel))) (by decide +kernel)
theorem wd_554 : (Cond.instanceMethod ({ cls := "PlaceFinder$Paper", name := "countNow", desc := "(IIII)I" } : Jvm.MethodName)) ∈ allw := allw_of (List.mem_append_right _ (List.mem_of_getElem? (i := 554) (by decide +kernel))) (by decide +kernel)
theorem wd_555 : (Cond.selects "PlaceFinder$Paper" ({ cls := "PlaceFinder$Paper", name := "countNow", desc := "(IIII)I" } : Jvm.MethodName) ({ cls := "PlaceFinder$Paper", name := "countNow", desc := "(IIII)I" } : Jvm.MethodName)) ∈ allw := allw_of (List.mem_append_right _ (List.mem_of_getElem? (i := 555) (by decide +kernel))) (by decide +kernel)
theorem wd_556 : (Cond.code ({ cls := "PlaceFinder$Paper", name := "countNow", desc := "(IIII)I" } : Jvm.MethodName) prog_2_method_6_code (7 : Nat) (Option.some Jvm.ClassFile.FieldType.int)) ∈ allw := allw_of (List.mem_append_right _ (List.mem_of_getElem? (i := 556) (by decide +kernel))) (by decide +kernel)
theorem wd_557 : (Cond.classLink "PlaceFinderLaw" (37 : Nat) "PlaceFinderModel") ∈ allw := allw_of (List.mem_append_right _ (List.mem_of_getElem? (i := 557) (by decide +kernel))) (by decide +kernel)
theorem wd_558 : (Cond.instantiable "PlaceFinderModel" (11 : Nat)) ∈ allw := allw_of (List.mem_append_right _ (List.mem_of_getElem? (i := 558) (by decide +kernel))) (by decide +kernel)
theorem wd_559 : (Cond.methodLink "PlaceFinderLaw" (39 : Nat) ({ cls := "PlaceFinderModel", name := "<init>", desc := "()V" } : Jvm.MethodName)) ∈ allw := allw_of (List.mem_append_right _ (List.mem_of_getElem? (i := 559) (by decide +kernel))) (by decide +kernel)
theorem wd_560 : (Cond.instanceMethod ({ cls := "PlaceFinderModel", name := "<init>", desc := "()V" } : Jvm.MethodName)) ∈ allw := allw_of (List.mem_append_right _ (List.mem_of_getElem? (i := 560) (by decide +kernel))) (by decide +kernel)
theorem wd_561 : (Cond.code ({ cls := "PlaceFinderModel", name := "<init>", desc := "()V" } : Jvm.MethodName) prog_7_method_1_code (1 : Nat) (Option.none : Option Jvm.ClassFile.FieldType)) ∈ allw := allw_of (List.mem_append_right _ (List.mem_of_getElem? (i := 561) (by decide +kernel))) (by decide +kernel)
theorem wd_562 : (Cond.methodLink "PlaceFinderModel" (1 : Nat) ({ cls := "java/lang/Object", name := "<init>", desc := "()V" } : Jvm.MethodName)) ∈ allw := allw_of (List.mem_append_right _ (List.mem_of_getElem? (i := 562) (by decide +kernel))) (by decide +kernel)
theorem wd_563 : (Cond.constant "PlaceFinderModel" (16 : Nat) (262144 : Int32)) ∈ allw := allw_of (List.mem_append_right _ (List.mem_of_getElem? (i := 563) (by decide +kernel))) (by decide +kernel)
theorem wd_564 : (Cond.constant "PlaceFinderModel" (21 : Nat) (263169 : Int32)) ∈ allw := allw_of (List.mem_append_right _ (List.mem_of_getElem? (i := 564) (by decide +kernel))) (by decide +kernel)
theorem wd_565 : (Cond.fieldLink "PlaceFinderModel" (35 : Nat) "PlaceFinderModel" "thrown" "I") ∈ allw := allw_of (List.mem_append_right _ (List.mem_of_getElem? (i := 565) (by decide +kernel))) (by decide +kernel)
theorem wd_566 : (Cond.fieldLink "PlaceFinderModel" (7 : Nat) "PlaceFinderModel" "width" "I") ∈ allw := allw_of (List.mem_append_right _ (List.mem_of_getElem? (i := 566) (by decide +kernel))) (by decide +kernel)
theorem wd_567 : (Cond.fieldLink "PlaceFinderModel" (13 : Nat) "PlaceFinderModel" "height" "I") ∈ allw := allw_of (List.mem_append_right _ (List.mem_of_getElem? (i := 567) (by decide +kernel))) (by decide +kernel)
theorem wd_568 : (Cond.fieldLink "PlaceFinderModel" (17 : Nat) "PlaceFinderModel" "dark" "[Z") ∈ allw := allw_of (List.mem_append_right _ (List.mem_of_getElem? (i := 568) (by decide +kernel))) (by decide +kernel)
theorem wd_569 : (Cond.fieldLink "PlaceFinderModel" (22 : Nat) "PlaceFinderModel" "sums" "[I") ∈ allw := allw_of (List.mem_append_right _ (List.mem_of_getElem? (i := 569) (by decide +kernel))) (by decide +kernel)
theorem wd_570 : (Cond.fieldLink "PlaceFinderModel" (26 : Nat) "PlaceFinderModel" "runs" "[I") ∈ allw := allw_of (List.mem_append_right _ (List.mem_of_getElem? (i := 570) (by decide +kernel))) (by decide +kernel)
theorem wd_571 : (Cond.fieldLink "PlaceFinderModel" (85 : Nat) "PlaceFinderModel" "runsOf" "I") ∈ allw := allw_of (List.mem_append_right _ (List.mem_of_getElem? (i := 571) (by decide +kernel))) (by decide +kernel)
theorem wd_572 : (Cond.fieldLink "PlaceFinderModel" (29 : Nat) "PlaceFinderModel" "stand" "[I") ∈ allw := allw_of (List.mem_append_right _ (List.mem_of_getElem? (i := 572) (by decide +kernel))) (by decide +kernel)
theorem wd_573 : (Cond.fieldLink "PlaceFinderModel" (38 : Nat) "PlaceFinderModel" "stood" "I") ∈ allw := allw_of (List.mem_append_right _ (List.mem_of_getElem? (i := 573) (by decide +kernel))) (by decide +kernel)
theorem wd_574 : (Cond.fieldLink "PlaceFinderModel" (32 : Nat) "PlaceFinderModel" "found" "[I") ∈ allw := allw_of (List.mem_append_right _ (List.mem_of_getElem? (i := 574) (by decide +kernel))) (by decide +kernel)
theorem wd_575 : (Cond.fieldLink "PlaceFinderModel" (41 : Nat) "PlaceFinderModel" "many" "I") ∈ allw := allw_of (List.mem_append_right _ (List.mem_of_getElem? (i := 575) (by decide +kernel))) (by decide +kernel)
theorem wd_576 : (Cond.lays "PlaceFinderModel" "PlaceFinderModel" "thrown" "I") ∈ allw := allw_of (List.mem_append_right _ (List.mem_of_getElem? (i := 576) (by decide +kernel))) (by decide +kernel)
theorem wd_578 : (Cond.lays "PlaceFinderModel" "PlaceFinderModel" "width" "I") ∈ allw := allw_of (List.mem_append_right _ (List.mem_of_getElem? (i := 578) (by decide +kernel))) (by decide +kernel)
theorem wd_580 : (Cond.lays "PlaceFinderModel" "PlaceFinderModel" "height" "I") ∈ allw := allw_of (List.mem_append_right _ (List.mem_of_getElem? (i := 580) (by decide +kernel))) (by decide +kernel)
theorem wd_582 : (Cond.laysFinal "PlaceFinderModel" "PlaceFinderModel" "dark" "[Z") ∈ allw := allw_of (List.mem_append_right _ (List.mem_of_getElem? (i := 582) (by decide +kernel))) (by decide +kernel)
theorem wd_584 : (Cond.laysFinal "PlaceFinderModel" "PlaceFinderModel" "sums" "[I") ∈ allw := allw_of (List.mem_append_right _ (List.mem_of_getElem? (i := 584) (by decide +kernel))) (by decide +kernel)
theorem wd_586 : (Cond.laysFinal "PlaceFinderModel" "PlaceFinderModel" "runs" "[I") ∈ allw := allw_of (List.mem_append_right _ (List.mem_of_getElem? (i := 586) (by decide +kernel))) (by decide +kernel)
theorem wd_588 : (Cond.lays "PlaceFinderModel" "PlaceFinderModel" "runsOf" "I") ∈ allw := allw_of (List.mem_append_right _ (List.mem_of_getElem? (i := 588) (by decide +kernel))) (by decide +kernel)
theorem wd_590 : (Cond.laysFinal "PlaceFinderModel" "PlaceFinderModel" "stand" "[I") ∈ allw := allw_of (List.mem_append_right _ (List.mem_of_getElem? (i := 590) (by decide +kernel))) (by decide +kernel)
theorem wd_592 : (Cond.lays "PlaceFinderModel" "PlaceFinderModel" "stood" "I") ∈ allw := allw_of (List.mem_append_right _ (List.mem_of_getElem? (i := 592) (by decide +kernel))) (by decide +kernel)
theorem wd_594 : (Cond.laysFinal "PlaceFinderModel" "PlaceFinderModel" "found" "[I") ∈ allw := allw_of (List.mem_append_right _ (List.mem_of_getElem? (i := 594) (by decide +kernel))) (by decide +kernel)
theorem wd_596 : (Cond.lays "PlaceFinderModel" "PlaceFinderModel" "many" "I") ∈ allw := allw_of (List.mem_append_right _ (List.mem_of_getElem? (i := 596) (by decide +kernel))) (by decide +kernel)
theorem wd_599 : (Cond.arrayClass Jvm.ClassFile.FieldType.boolean) ∈ allw := allw_of (List.mem_append_right _ (List.mem_of_getElem? (i := 599) (by decide +kernel))) (by decide +kernel)
theorem wd_600 : (Cond.methodLink "PlaceFinderLaw" (46 : Nat) ({ cls := "PlaceFinderModel", name := "thrown", desc := "()I" } : Jvm.MethodName)) ∈ allw := allw_of (List.mem_append_right _ (List.mem_of_getElem? (i := 600) (by decide +kernel))) (by decide +kernel)
theorem wd_601 : (Cond.instanceMethod ({ cls := "PlaceFinderModel", name := "thrown", desc := "()I" } : Jvm.MethodName)) ∈ allw := allw_of (List.mem_append_right _ (List.mem_of_getElem? (i := 601) (by decide +kernel))) (by decide +kernel)
theorem wd_602 : (Cond.selects "PlaceFinderModel" ({ cls := "PlaceFinderModel", name := "thrown", desc := "()I" } : Jvm.MethodName) ({ cls := "PlaceFinderModel", name := "thrown", desc := "()I" } : Jvm.MethodName)) ∈ allw := allw_of (List.mem_append_right _ (List.mem_of_getElem? (i := 602) (by decide +kernel))) (by decide +kernel)
theorem wd_603 : (Cond.code ({ cls := "PlaceFinderModel", name := "thrown", desc := "()I" } : Jvm.MethodName) prog_7_method_2_code (1 : Nat) (Option.some Jvm.ClassFile.FieldType.int)) ∈ allw := allw_of (List.mem_append_right _ (List.mem_of_getElem? (i := 603) (by decide +kernel))) (by decide +kernel)
theorem wd_604 : (Cond.methodLink "PlaceFinderLaw" (45 : Nat) ({ cls := "PlaceFinderModel", name := "sheet", desc := "(II)V" } : Jvm.MethodName)) ∈ allw := allw_of (List.mem_append_right _ (List.mem_of_getElem? (i := 604) (by decide +kernel))) (by decide +kernel)
theorem wd_605 : (Cond.instanceMethod ({ cls := "PlaceFinderModel", name := "sheet", desc := "(II)V" } : Jvm.MethodName)) ∈ allw := allw_of (List.mem_append_right _ (List.mem_of_getElem? (i := 605) (by decide +kernel))) (by decide +kernel)
theorem wd_606 : (Cond.selects "PlaceFinderModel" ({ cls := "PlaceFinderModel", name := "sheet", desc := "(II)V" } : Jvm.MethodName) ({ cls := "PlaceFinderModel", name := "sheet", desc := "(II)V" } : Jvm.MethodName)) ∈ allw := allw_of (List.mem_append_right _ (List.mem_of_getElem? (i := 606) (by decide +kernel))) (by decide +kernel)
theorem wd_607 : (Cond.code ({ cls := "PlaceFinderModel", name := "sheet", desc := "(II)V" } : Jvm.MethodName) prog_7_method_6_code (4 : Nat) (Option.none : Option Jvm.ClassFile.FieldType)) ∈ allw := allw_of (List.mem_append_right _ (List.mem_of_getElem? (i := 607) (by decide +kernel))) (by decide +kernel)
theorem wd_608 : (Cond.methodLink "PlaceFinderModel" (44 : Nat) ({ cls := "PlaceFinderModel", name := "forget", desc := "()V" } : Jvm.MethodName)) ∈ allw := allw_of (List.mem_append_right _ (List.mem_of_getElem? (i := 608) (by decide +kernel))) (by decide +kernel)
theorem wd_610 : (Cond.instanceMethod ({ cls := "PlaceFinderModel", name := "forget", desc := "()V" } : Jvm.MethodName)) ∈ allw := allw_of (List.mem_append_right _ (List.mem_of_getElem? (i := 610) (by decide +kernel))) (by decide +kernel)
theorem wd_611 : (Cond.code ({ cls := "PlaceFinderModel", name := "forget", desc := "()V" } : Jvm.MethodName) prog_7_method_5_code (1 : Nat) (Option.none : Option Jvm.ClassFile.FieldType)) ∈ allw := allw_of (List.mem_append_right _ (List.mem_of_getElem? (i := 611) (by decide +kernel))) (by decide +kernel)
theorem wd_612 : (Cond.methodLink "PlaceFinderLaw" (56 : Nat) ({ cls := "PlaceFinderModel", name := "turn", desc := "(IIJ)I" } : Jvm.MethodName)) ∈ allw := allw_of (List.mem_append_right _ (List.mem_of_getElem? (i := 612) (by decide +kernel))) (by decide +kernel)
theorem wd_613 : (Cond.instanceMethod ({ cls := "PlaceFinderModel", name := "turn", desc := "(IIJ)I" } : Jvm.MethodName)) ∈ allw := allw_of (List.mem_append_right _ (List.mem_of_getElem? (i := 613) (by decide +kernel))) (by decide +kernel)
theorem wd_614 : (Cond.selects "PlaceFinderModel" ({ cls := "PlaceFinderModel", name := "turn", desc := "(IIJ)I" } : Jvm.MethodName) ({ cls := "PlaceFinderModel", name := "turn", desc := "(IIJ)I" } : Jvm.MethodName)) ∈ allw := allw_of (List.mem_append_right _ (List.mem_of_getElem? (i := 614) (by decide +kernel))) (by decide +kernel)
theorem wd_615 : (Cond.code ({ cls := "PlaceFinderModel", name := "turn", desc := "(IIJ)I" } : Jvm.MethodName) prog_7_method_7_code (7 : Nat) (Option.some Jvm.ClassFile.FieldType.int)) ∈ allw := allw_of (List.mem_append_right _ (List.mem_of_getElem? (i := 615) (by decide +kernel))) (by decide +kernel)
theorem wd_616 : (Cond.methodLink "PlaceFinderModel" (47 : Nat) ({ cls := "PlaceFinderModel", name := "isOn", desc := "(JJ)Z" } : Jvm.MethodName)) ∈ allw := allw_of (List.mem_append_right _ (List.mem_of_getElem? (i := 616) (by decide +kernel))) (by decide +kernel)
theorem wd_618 : (Cond.instanceMethod ({ cls := "PlaceFinderModel", name := "isOn", desc := "(JJ)Z" } : Jvm.MethodName)) ∈ allw := allw_of (List.mem_append_right _ (List.mem_of_getElem? (i := 618) (by decide +kernel))) (by decide +kernel)
theorem wd_619 : (Cond.code ({ cls := "PlaceFinderModel", name := "isOn", desc := "(JJ)Z" } : Jvm.MethodName) prog_7_method_3_code (5 : Nat) (Option.some Jvm.ClassFile.FieldType.boolean)) ∈ allw := allw_of (List.mem_append_right _ (List.mem_of_getElem? (i := 619) (by decide +kernel))) (by decide +kernel)
theorem wd_620 : (Cond.methodLink "PlaceFinderModel" (51 : Nat) ({ cls := "PlaceFinderModel", name := "isDark", desc := "(II)Z" } : Jvm.MethodName)) ∈ allw := allw_of (List.mem_append_right _ (List.mem_of_getElem? (i := 620) (by decide +kernel))) (by decide +kernel)
theorem wd_622 : (Cond.instanceMethod ({ cls := "PlaceFinderModel", name := "isDark", desc := "(II)Z" } : Jvm.MethodName)) ∈ allw := allw_of (List.mem_append_right _ (List.mem_of_getElem? (i := 622) (by decide +kernel))) (by decide +kernel)
theorem wd_623 : (Cond.code ({ cls := "PlaceFinderModel", name := "isDark", desc := "(II)Z" } : Jvm.MethodName) prog_7_method_4_code (3 : Nat) (Option.some Jvm.ClassFile.FieldType.boolean)) ∈ allw := allw_of (List.mem_append_right _ (List.mem_of_getElem? (i := 623) (by decide +kernel))) (by decide +kernel)
theorem wd_624 : (Cond.methodLink "PlaceFinderLaw" (60 : Nat) ({ cls := "PlaceFinderModel", name := "fill", desc := "(IIIIZ)I" } : Jvm.MethodName)) ∈ allw := allw_of (List.mem_append_right _ (List.mem_of_getElem? (i := 624) (by decide +kernel))) (by decide +kernel)
theorem wd_625 : (Cond.instanceMethod ({ cls := "PlaceFinderModel", name := "fill", desc := "(IIIIZ)I" } : Jvm.MethodName)) ∈ allw := allw_of (List.mem_append_right _ (List.mem_of_getElem? (i := 625) (by decide +kernel))) (by decide +kernel)
theorem wd_626 : (Cond.selects "PlaceFinderModel" ({ cls := "PlaceFinderModel", name := "fill", desc := "(IIIIZ)I" } : Jvm.MethodName) ({ cls := "PlaceFinderModel", name := "fill", desc := "(IIIIZ)I" } : Jvm.MethodName)) ∈ allw := allw_of (List.mem_append_right _ (List.mem_of_getElem? (i := 626) (by decide +kernel))) (by decide +kernel)
theorem wd_627 : (Cond.code ({ cls := "PlaceFinderModel", name := "fill", desc := "(IIIIZ)I" } : Jvm.MethodName) prog_7_method_8_code (10 : Nat) (Option.some Jvm.ClassFile.FieldType.int)) ∈ allw := allw_of (List.mem_append_right _ (List.mem_of_getElem? (i := 627) (by decide +kernel))) (by decide +kernel)
theorem wd_628 : (Cond.methodLink "PlaceFinderLaw" (69 : Nat) ({ cls := "PlaceFinderModel", name := "dots", desc := "(II)J" } : Jvm.MethodName)) ∈ allw := allw_of (List.mem_append_right _ (List.mem_of_getElem? (i := 628) (by decide +kernel))) (by decide +kernel)
theorem wd_629 : (Cond.instanceMethod ({ cls := "PlaceFinderModel", name := "dots", desc := "(II)J" } : Jvm.MethodName)) ∈ allw := allw_of (List.mem_append_right _ (List.mem_of_getElem? (i := 629) (by decide +kernel))) (by decide +kernel)
theorem wd_630 : (Cond.selects "PlaceFinderModel" ({ cls := "PlaceFinderModel", name := "dots", desc := "(II)J" } : Jvm.MethodName) ({ cls := "PlaceFinderModel", name := "dots", desc := "(II)J" } : Jvm.MethodName)) ∈ allw := allw_of (List.mem_append_right _ (List.mem_of_getElem? (i := 630) (by decide +kernel))) (by decide +kernel)
theorem wd_631 : (Cond.code ({ cls := "PlaceFinderModel", name := "dots", desc := "(II)J" } : Jvm.MethodName) prog_7_method_9_code (6 : Nat) (Option.some Jvm.ClassFile.FieldType.long)) ∈ allw := allw_of (List.mem_append_right _ (List.mem_of_getElem? (i := 631) (by decide +kernel))) (by decide +kernel)
theorem wd_632 : (Cond.methodLink "PlaceFinderLaw" (64 : Nat) ({ cls := "PlaceFinderModel", name := "draw", desc := "(III)I" } : Jvm.MethodName)) ∈ allw := allw_of (List.mem_append_right _ (List.mem_of_getElem? (i := 632) (by decide +kernel))) (by decide +kernel)
theorem wd_633 : (Cond.instanceMethod ({ cls := "PlaceFinderModel", name := "draw", desc := "(III)I" } : Jvm.MethodName)) ∈ allw := allw_of (List.mem_append_right _ (List.mem_of_getElem? (i := 633) (by decide +kernel))) (by decide +kernel)
theorem wd_634 : (Cond.selects "PlaceFinderModel" ({ cls := "PlaceFinderModel", name := "draw", desc := "(III)I" } : Jvm.MethodName) ({ cls := "PlaceFinderModel", name := "draw", desc := "(III)I" } : Jvm.MethodName)) ∈ allw := allw_of (List.mem_append_right _ (List.mem_of_getElem? (i := 634) (by decide +kernel))) (by decide +kernel)
theorem wd_635 : (Cond.code ({ cls := "PlaceFinderModel", name := "draw", desc := "(III)I" } : Jvm.MethodName) prog_7_method_18_code (11 : Nat) (Option.some Jvm.ClassFile.FieldType.int)) ∈ allw := allw_of (List.mem_append_right _ (List.mem_of_getElem? (i := 635) (by decide +kernel))) (by decide +kernel)
theorem wd_636 : (Cond.methodLink "PlaceFinderModel" (59 : Nat) ({ cls := "PlaceFinderModel", name := "side", desc := "(I)I" } : Jvm.MethodName)) ∈ allw := allw_of (List.mem_append_right _ (List.mem_of_getElem? (i := 636) (by decide +kernel))) (by decide +kernel)
theorem wd_637 : (Cond.static ({ cls := "PlaceFinderModel", name := "side", desc := "(I)I" } : Jvm.MethodName)) ∈ allw := allw_of (List.mem_append_right _ (List.mem_of_getElem? (i := 637) (by decide +kernel))) (by decide +kernel)
theorem wd_638 : (Cond.code ({ cls := "PlaceFinderModel", name := "side", desc := "(I)I" } : Jvm.MethodName) prog_7_method_10_code (1 : Nat) (Option.some Jvm.ClassFile.FieldType.int)) ∈ allw := allw_of (List.mem_append_right _ (List.mem_of_getElem? (i := 638) (by decide +kernel))) (by decide +kernel)
theorem wd_639 : (Cond.methodLink "PlaceFinderModel" (67 : Nat) ({ cls := "PlaceFinderModel", name := "isPlace", desc := "(III)Z" } : Jvm.MethodName)) ∈ allw := allw_of (List.mem_append_right _ (List.mem_of_getElem? (i := 639) (by decide +kernel))) (by decide +kernel)
theorem wd_641 : (Cond.instanceMethod ({ cls := "PlaceFinderModel", name := "isPlace", desc := "(III)Z" } : Jvm.MethodName)) ∈ allw := allw_of (List.mem_append_right _ (List.mem_of_getElem? (i := 641) (by decide +kernel))) (by decide +kernel)
theorem wd_642 : (Cond.code ({ cls := "PlaceFinderModel", name := "isPlace", desc := "(III)Z" } : Jvm.MethodName) prog_7_method_16_code (4 : Nat) (Option.some Jvm.ClassFile.FieldType.boolean)) ∈ allw := allw_of (List.mem_append_right _ (List.mem_of_getElem? (i := 642) (by decide +kernel))) (by decide +kernel)
theorem wd_643 : (Cond.methodLink "PlaceFinderModel" (71 : Nat) ({ cls := "PlaceFinderModel", name := "module", desc := "(III)I" } : Jvm.MethodName)) ∈ allw := allw_of (List.mem_append_right _ (List.mem_of_getElem? (i := 643) (by decide +kernel))) (by decide +kernel)
theorem wd_644 : (Cond.static ({ cls := "PlaceFinderModel", name := "module", desc := "(III)I" } : Jvm.MethodName)) ∈ allw := allw_of (List.mem_append_right _ (List.mem_of_getElem? (i := 644) (by decide +kernel))) (by decide +kernel)
theorem wd_645 : (Cond.code ({ cls := "PlaceFinderModel", name := "module", desc := "(III)I" } : Jvm.MethodName) prog_7_method_13_code (5 : Nat) (Option.some Jvm.ClassFile.FieldType.int)) ∈ allw := allw_of (List.mem_append_right _ (List.mem_of_getElem? (i := 645) (by decide +kernel))) (by decide +kernel)
theorem wd_646 : (Cond.methodLink "PlaceFinderModel" (63 : Nat) ({ cls := "PlaceFinderModel", name := "distance", desc := "(IIII)I" } : Jvm.MethodName)) ∈ allw := allw_of (List.mem_append_right _ (List.mem_of_getElem? (i := 646) (by decide +kernel))) (by decide +kernel)
theorem wd_647 : (Cond.static ({ cls := "PlaceFinderModel", name := "distance", desc := "(IIII)I" } : Jvm.MethodName)) ∈ allw := allw_of (List.mem_append_right _ (List.mem_of_getElem? (i := 647) (by decide +kernel))) (by decide +kernel)
theorem wd_648 : (Cond.code ({ cls := "PlaceFinderModel", name := "distance", desc := "(IIII)I" } : Jvm.MethodName) prog_7_method_12_code (4 : Nat) (Option.some Jvm.ClassFile.FieldType.int)) ∈ allw := allw_of (List.mem_append_right _ (List.mem_of_getElem? (i := 648) (by decide +kernel))) (by decide +kernel)
theorem wd_649 : (Cond.methodLink "PlaceFinderModel" (55 : Nat) ({ cls := "PlaceFinderModel", name := "apart", desc := "(II)I" } : Jvm.MethodName)) ∈ allw := allw_of (List.mem_append_right _ (List.mem_of_getElem? (i := 649) (by decide +kernel))) (by decide +kernel)
theorem wd_650 : (Cond.static ({ cls := "PlaceFinderModel", name := "apart", desc := "(II)I" } : Jvm.MethodName)) ∈ allw := allw_of (List.mem_append_right _ (List.mem_of_getElem? (i := 650) (by decide +kernel))) (by decide +kernel)
theorem wd_651 : (Cond.code ({ cls := "PlaceFinderModel", name := "apart", desc := "(II)I" } : Jvm.MethodName) prog_7_method_11_code (2 : Nat) (Option.some Jvm.ClassFile.FieldType.int)) ∈ allw := allw_of (List.mem_append_right _ (List.mem_of_getElem? (i := 651) (by decide +kernel))) (by decide +kernel)
theorem wd_652 : (Cond.methodLink "PlaceFinderModel" (75 : Nat) ({ cls := "PlaceFinderModel", name := "blockX", desc := "(IIII)I" } : Jvm.MethodName)) ∈ allw := allw_of (List.mem_append_right _ (List.mem_of_getElem? (i := 652) (by decide +kernel))) (by decide +kernel)
theorem wd_653 : (Cond.static ({ cls := "PlaceFinderModel", name := "blockX", desc := "(IIII)I" } : Jvm.MethodName)) ∈ allw := allw_of (List.mem_append_right _ (List.mem_of_getElem? (i := 653) (by decide +kernel))) (by decide +kernel)
theorem wd_654 : (Cond.code ({ cls := "PlaceFinderModel", name := "blockX", desc := "(IIII)I" } : Jvm.MethodName) prog_7_method_14_code (4 : Nat) (Option.some Jvm.ClassFile.FieldType.int)) ∈ allw := allw_of (List.mem_append_right _ (List.mem_of_getElem? (i := 654) (by decide +kernel))) (by decide +kernel)
theorem wd_655 : (Cond.methodLink "PlaceFinderModel" (78 : Nat) ({ cls := "PlaceFinderModel", name := "blockY", desc := "(IIII)I" } : Jvm.MethodName)) ∈ allw := allw_of (List.mem_append_right _ (List.mem_of_getElem? (i := 655) (by decide +kernel))) (by decide +kernel)
theorem wd_656 : (Cond.static ({ cls := "PlaceFinderModel", name := "blockY", desc := "(IIII)I" } : Jvm.MethodName)) ∈ allw := allw_of (List.mem_append_right _ (List.mem_of_getElem? (i := 656) (by decide +kernel))) (by decide +kernel)
theorem wd_657 : (Cond.code ({ cls := "PlaceFinderModel", name := "blockY", desc := "(IIII)I" } : Jvm.MethodName) prog_7_method_15_code (4 : Nat) (Option.some Jvm.ClassFile.FieldType.int)) ∈ allw := allw_of (List.mem_append_right _ (List.mem_of_getElem? (i := 657) (by decide +kernel))) (by decide +kernel)
theorem wd_658 : (Cond.methodLink "PlaceFinderModel" (81 : Nat) ({ cls := "PlaceFinderModel", name := "differ", desc := "(IIIZZ)I" } : Jvm.MethodName)) ∈ allw := allw_of (List.mem_append_right _ (List.mem_of_getElem? (i := 658) (by decide +kernel))) (by decide +kernel)
theorem wd_660 : (Cond.instanceMethod ({ cls := "PlaceFinderModel", name := "differ", desc := "(IIIZZ)I" } : Jvm.MethodName)) ∈ allw := allw_of (List.mem_append_right _ (List.mem_of_getElem? (i := 660) (by decide +kernel))) (by decide +kernel)
theorem wd_661 : (Cond.code ({ cls := "PlaceFinderModel", name := "differ", desc := "(IIIZZ)I" } : Jvm.MethodName) prog_7_method_17_code (9 : Nat) (Option.some Jvm.ClassFile.FieldType.int)) ∈ allw := allw_of (List.mem_append_right _ (List.mem_of_getElem? (i := 661) (by decide +kernel))) (by decide +kernel)
theorem wd_662 : (Cond.methodLink "PlaceFinderLaw" (72 : Nat) ({ cls := "PlaceFinderModel", name := "find", desc := "(III)I" } : Jvm.MethodName)) ∈ allw := allw_of (List.mem_append_right _ (List.mem_of_getElem? (i := 662) (by decide +kernel))) (by decide +kernel)
theorem wd_663 : (Cond.instanceMethod ({ cls := "PlaceFinderModel", name := "find", desc := "(III)I" } : Jvm.MethodName)) ∈ allw := allw_of (List.mem_append_right _ (List.mem_of_getElem? (i := 663) (by decide +kernel))) (by decide +kernel)
theorem wd_664 : (Cond.selects "PlaceFinderModel" ({ cls := "PlaceFinderModel", name := "find", desc := "(III)I" } : Jvm.MethodName) ({ cls := "PlaceFinderModel", name := "find", desc := "(III)I" } : Jvm.MethodName)) ∈ allw := allw_of (List.mem_append_right _ (List.mem_of_getElem? (i := 664) (by decide +kernel))) (by decide +kernel)
theorem wd_665 : (Cond.code ({ cls := "PlaceFinderModel", name := "find", desc := "(III)I" } : Jvm.MethodName) prog_7_method_30_code (6 : Nat) (Option.some Jvm.ClassFile.FieldType.int)) ∈ allw := allw_of (List.mem_append_right _ (List.mem_of_getElem? (i := 665) (by decide +kernel))) (by decide +kernel)
theorem wd_666 : (Cond.methodLink "PlaceFinderModel" (112 : Nat) ({ cls := "PlaceFinderModel", name := "add", desc := "()V" } : Jvm.MethodName)) ∈ allw := allw_of (List.mem_append_right _ (List.mem_of_getElem? (i := 666) (by decide +kernel))) (by decide +kernel)
theorem wd_668 : (Cond.instanceMethod ({ cls := "PlaceFinderModel", name := "add", desc := "()V" } : Jvm.MethodName)) ∈ allw := allw_of (List.mem_append_right _ (List.mem_of_getElem? (i := 668) (by decide +kernel))) (by decide +kernel)
theorem wd_669 : (Cond.code ({ cls := "PlaceFinderModel", name := "add", desc := "()V" } : Jvm.MethodName) prog_7_method_19_code (4 : Nat) (Option.none : Option Jvm.ClassFile.FieldType)) ∈ allw := allw_of (List.mem_append_right _ (List.mem_of_getElem? (i := 669) (by decide +kernel))) (by decide +kernel)
theorem wd_670 : (Cond.methodLink "PlaceFinderModel" (115 : Nat) ({ cls := "PlaceFinderModel", name := "list", desc := "(I)V" } : Jvm.MethodName)) ∈ allw := allw_of (List.mem_append_right _ (List.mem_of_getElem? (i := 670) (by decide +kernel))) (by decide +kernel)
theorem wd_672 : (Cond.instanceMethod ({ cls := "PlaceFinderModel", name := "list", desc := "(I)V" } : Jvm.MethodName)) ∈ allw := allw_of (List.mem_append_right _ (List.mem_of_getElem? (i := 672) (by decide +kernel))) (by decide +kernel)
theorem wd_673 : (Cond.code ({ cls := "PlaceFinderModel", name := "list", desc := "(I)V" } : Jvm.MethodName) prog_7_method_20_code (6 : Nat) (Option.none : Option Jvm.ClassFile.FieldType)) ∈ allw := allw_of (List.mem_append_right _ (List.mem_of_getElem? (i := 673) (by decide +kernel))) (by decide +kernel)
theorem wd_674 : (Cond.methodLink "PlaceFinderModel" (119 : Nat) ({ cls := "PlaceFinderModel", name := "look", desc := "(III)Z" } : Jvm.MethodName)) ∈ allw := allw_of (List.mem_append_right _ (List.mem_of_getElem? (i := 674) (by decide +kernel))) (by decide +kernel)
theorem wd_676 : (Cond.instanceMethod ({ cls := "PlaceFinderModel", name := "look", desc := "(III)Z" } : Jvm.MethodName)) ∈ allw := allw_of (List.mem_append_right _ (List.mem_of_getElem? (i := 676) (by decide +kernel))) (by decide +kernel)
theorem wd_677 : (Cond.code ({ cls := "PlaceFinderModel", name := "look", desc := "(III)Z" } : Jvm.MethodName) prog_7_method_24_code (9 : Nat) (Option.some Jvm.ClassFile.FieldType.boolean)) ∈ allw := allw_of (List.mem_append_right _ (List.mem_of_getElem? (i := 677) (by decide +kernel))) (by decide +kernel)
theorem wd_678 : (Cond.methodLink "PlaceFinderModel" (95 : Nat) ({ cls := "PlaceFinderModel", name := "wrong", desc := "(IIIIII)I" } : Jvm.MethodName)) ∈ allw := allw_of (List.mem_append_right _ (List.mem_of_getElem? (i := 678) (by decide +kernel))) (by decide +kernel)
theorem wd_680 : (Cond.instanceMethod ({ cls := "PlaceFinderModel", name := "wrong", desc := "(IIIIII)I" } : Jvm.MethodName)) ∈ allw := allw_of (List.mem_append_right _ (List.mem_of_getElem? (i := 680) (by decide +kernel))) (by decide +kernel)
theorem wd_681 : (Cond.code ({ cls := "PlaceFinderModel", name := "wrong", desc := "(IIIIII)I" } : Jvm.MethodName) prog_7_method_23_code (11 : Nat) (Option.some Jvm.ClassFile.FieldType.int)) ∈ allw := allw_of (List.mem_append_right _ (List.mem_of_getElem? (i := 681) (by decide +kernel))) (by decide +kernel)
theorem wd_682 : (Cond.methodLink "PlaceFinderModel" (91 : Nat) ({ cls := "PlaceFinderModel", name := "darkIn", desc := "(IIIIII)I" } : Jvm.MethodName)) ∈ allw := allw_of (List.mem_append_right _ (List.mem_of_getElem? (i := 682) (by decide +kernel))) (by decide +kernel)
theorem wd_684 : (Cond.instanceMethod ({ cls := "PlaceFinderModel", name := "darkIn", desc := "(IIIIII)I" } : Jvm.MethodName)) ∈ allw := allw_of (List.mem_append_right _ (List.mem_of_getElem? (i := 684) (by decide +kernel))) (by decide +kernel)
theorem wd_685 : (Cond.code ({ cls := "PlaceFinderModel", name := "darkIn", desc := "(IIIIII)I" } : Jvm.MethodName) prog_7_method_21_code (16 : Nat) (Option.some Jvm.ClassFile.FieldType.int)) ∈ allw := allw_of (List.mem_append_right _ (List.mem_of_getElem? (i := 685) (by decide +kernel))) (by decide +kernel)
theorem wd_686 : (Cond.methodLink "PlaceFinderModel" (88 : Nat) ({ cls := "PlaceFinderModel", name := "least", desc := "(II)I" } : Jvm.MethodName)) ∈ allw := allw_of (List.mem_append_right _ (List.mem_of_getElem? (i := 686) (by decide +kernel))) (by decide +kernel)
theorem wd_687 : (Cond.static ({ cls := "PlaceFinderModel", name := "least", desc := "(II)I" } : Jvm.MethodName)) ∈ allw := allw_of (List.mem_append_right _ (List.mem_of_getElem? (i := 687) (by decide +kernel))) (by decide +kernel)
theorem wd_688 : (Cond.code ({ cls := "PlaceFinderModel", name := "least", desc := "(II)I" } : Jvm.MethodName) prog_7_method_22_code (2 : Nat) (Option.some Jvm.ClassFile.FieldType.int)) ∈ allw := allw_of (List.mem_append_right _ (List.mem_of_getElem? (i := 688) (by decide +kernel))) (by decide +kernel)
theorem wd_689 : (Cond.methodLink "PlaceFinderModel" (98 : Nat) ({ cls := "PlaceFinderModel", name := "enter", desc := "(IIIIII)V" } : Jvm.MethodName)) ∈ allw := allw_of (List.mem_append_right _ (List.mem_of_getElem? (i := 689) (by decide +kernel))) (by decide +kernel)
theorem wd_691 : (Cond.instanceMethod ({ cls := "PlaceFinderModel", name := "enter", desc := "(IIIIII)V" } : Jvm.MethodName)) ∈ allw := allw_of (List.mem_append_right _ (List.mem_of_getElem? (i := 691) (by decide +kernel))) (by decide +kernel)
theorem wd_692 : (Cond.code ({ cls := "PlaceFinderModel", name := "enter", desc := "(IIIIII)V" } : Jvm.MethodName) prog_7_method_25_code (7 : Nat) (Option.none : Option Jvm.ClassFile.FieldType)) ∈ allw := allw_of (List.mem_append_right _ (List.mem_of_getElem? (i := 692) (by decide +kernel))) (by decide +kernel)
theorem wd_693 : (Cond.methodLink "PlaceFinderModel" (122 : Nat) ({ cls := "PlaceFinderModel", name := "order", desc := "()V" } : Jvm.MethodName)) ∈ allw := allw_of (List.mem_append_right _ (List.mem_of_getElem? (i := 693) (by decide +kernel))) (by decide +kernel)
theorem wd_695 : (Cond.instanceMethod ({ cls := "PlaceFinderModel", name := "order", desc := "()V" } : Jvm.MethodName)) ∈ allw := allw_of (List.mem_append_right _ (List.mem_of_getElem? (i := 695) (by decide +kernel))) (by decide +kernel)
theorem wd_696 : (Cond.code ({ cls := "PlaceFinderModel", name := "order", desc := "()V" } : Jvm.MethodName) prog_7_method_29_code (6 : Nat) (Option.none : Option Jvm.ClassFile.FieldType)) ∈ allw := allw_of (List.mem_append_right _ (List.mem_of_getElem? (i := 696) (by decide +kernel))) (by decide +kernel)
theorem wd_697 : (Cond.methodLink "PlaceFinderModel" (105 : Nat) ({ cls := "PlaceFinderModel", name := "isBefore", desc := "(II)Z" } : Jvm.MethodName)) ∈ allw := allw_of (List.mem_append_right _ (List.mem_of_getElem? (i := 697) (by decide +kernel))) (by decide +kernel)
theorem wd_699 : (Cond.instanceMethod ({ cls := "PlaceFinderModel", name := "isBefore", desc := "(II)Z" } : Jvm.MethodName)) ∈ allw := allw_of (List.mem_append_right _ (List.mem_of_getElem? (i := 699) (by decide +kernel))) (by decide +kernel)
theorem wd_700 : (Cond.code ({ cls := "PlaceFinderModel", name := "isBefore", desc := "(II)Z" } : Jvm.MethodName) prog_7_method_26_code (5 : Nat) (Option.some Jvm.ClassFile.FieldType.boolean)) ∈ allw := allw_of (List.mem_append_right _ (List.mem_of_getElem? (i := 700) (by decide +kernel))) (by decide +kernel)
theorem wd_701 : (Cond.methodLink "PlaceFinderModel" (108 : Nat) ({ cls := "PlaceFinderModel", name := "leads", desc := "(I)Z" } : Jvm.MethodName)) ∈ allw := allw_of (List.mem_append_right _ (List.mem_of_getElem? (i := 701) (by decide +kernel))) (by decide +kernel)
theorem wd_703 : (Cond.instanceMethod ({ cls := "PlaceFinderModel", name := "leads", desc := "(I)Z" } : Jvm.MethodName)) ∈ allw := allw_of (List.mem_append_right _ (List.mem_of_getElem? (i := 703) (by decide +kernel))) (by decide +kernel)
theorem wd_704 : (Cond.code ({ cls := "PlaceFinderModel", name := "leads", desc := "(I)Z" } : Jvm.MethodName) prog_7_method_28_code (4 : Nat) (Option.some Jvm.ClassFile.FieldType.boolean)) ∈ allw := allw_of (List.mem_append_right _ (List.mem_of_getElem? (i := 704) (by decide +kernel))) (by decide +kernel)
theorem wd_705 : (Cond.methodLink "PlaceFinderModel" (102 : Nat) ({ cls := "PlaceFinderModel", name := "meet", desc := "(II)Z" } : Jvm.MethodName)) ∈ allw := allw_of (List.mem_append_right _ (List.mem_of_getElem? (i := 705) (by decide +kernel))) (by decide +kernel)
theorem wd_707 : (Cond.instanceMethod ({ cls := "PlaceFinderModel", name := "meet", desc := "(II)Z" } : Jvm.MethodName)) ∈ allw := allw_of (List.mem_append_right _ (List.mem_of_getElem? (i := 707) (by decide +kernel))) (by decide +kernel)
theorem wd_708 : (Cond.code ({ cls := "PlaceFinderModel", name := "meet", desc := "(II)Z" } : Jvm.MethodName) prog_7_method_27_code (5 : Nat) (Option.some Jvm.ClassFile.FieldType.boolean)) ∈ allw := allw_of (List.mem_append_right _ (List.mem_of_getElem? (i := 708) (by decide +kernel))) (by decide +kernel)
theorem wd_709 : (Cond.methodLink "PlaceFinderLaw" (76 : Nat) ({ cls := "PlaceFinderModel", name := "stood", desc := "()I" } : Jvm.MethodName)) ∈ allw := allw_of (List.mem_append_right _ (List.mem_of_getElem? (i := 709) (by decide +kernel))) (by decide +kernel)
theorem wd_710 : (Cond.instanceMethod ({ cls := "PlaceFinderModel", name := "stood", desc := "()I" } : Jvm.MethodName)) ∈ allw := allw_of (List.mem_append_right _ (List.mem_of_getElem? (i := 710) (by decide +kernel))) (by decide +kernel)
theorem wd_711 : (Cond.selects "PlaceFinderModel" ({ cls := "PlaceFinderModel", name := "stood", desc := "()I" } : Jvm.MethodName) ({ cls := "PlaceFinderModel", name := "stood", desc := "()I" } : Jvm.MethodName)) ∈ allw := allw_of (List.mem_append_right _ (List.mem_of_getElem? (i := 711) (by decide +kernel))) (by decide +kernel)
theorem wd_712 : (Cond.code ({ cls := "PlaceFinderModel", name := "stood", desc := "()I" } : Jvm.MethodName) prog_7_method_31_code (1 : Nat) (Option.some Jvm.ClassFile.FieldType.int)) ∈ allw := allw_of (List.mem_append_right _ (List.mem_of_getElem? (i := 712) (by decide +kernel))) (by decide +kernel)
theorem wd_713 : (Cond.methodLink "PlaceFinderLaw" (80 : Nat) ({ cls := "PlaceFinderModel", name := "place", desc := "(II)I" } : Jvm.MethodName)) ∈ allw := allw_of (List.mem_append_right _ (List.mem_of_getElem? (i := 713) (by decide +kernel))) (by decide +kernel)
theorem wd_714 : (Cond.instanceMethod ({ cls := "PlaceFinderModel", name := "place", desc := "(II)I" } : Jvm.MethodName)) ∈ allw := allw_of (List.mem_append_right _ (List.mem_of_getElem? (i := 714) (by decide +kernel))) (by decide +kernel)
theorem wd_715 : (Cond.selects "PlaceFinderModel" ({ cls := "PlaceFinderModel", name := "place", desc := "(II)I" } : Jvm.MethodName) ({ cls := "PlaceFinderModel", name := "place", desc := "(II)I" } : Jvm.MethodName)) ∈ allw := allw_of (List.mem_append_right _ (List.mem_of_getElem? (i := 715) (by decide +kernel))) (by decide +kernel)
theorem wd_716 : (Cond.code ({ cls := "PlaceFinderModel", name := "place", desc := "(II)I" } : Jvm.MethodName) prog_7_method_32_code (3 : Nat) (Option.some Jvm.ClassFile.FieldType.int)) ∈ allw := allw_of (List.mem_append_right _ (List.mem_of_getElem? (i := 716) (by decide +kernel))) (by decide +kernel)
theorem wd_717 : (Cond.methodLink "PlaceFinderLaw" (83 : Nat) ({ cls := "PlaceFinderModel", name := "modules", desc := "(III)J" } : Jvm.MethodName)) ∈ allw := allw_of (List.mem_append_right _ (List.mem_of_getElem? (i := 717) (by decide +kernel))) (by decide +kernel)
theorem wd_718 : (Cond.instanceMethod ({ cls := "PlaceFinderModel", name := "modules", desc := "(III)J" } : Jvm.MethodName)) ∈ allw := allw_of (List.mem_append_right _ (List.mem_of_getElem? (i := 718) (by decide +kernel))) (by decide +kernel)
theorem wd_719 : (Cond.selects "PlaceFinderModel" ({ cls := "PlaceFinderModel", name := "modules", desc := "(III)J" } : Jvm.MethodName) ({ cls := "PlaceFinderModel", name := "modules", desc := "(III)J" } : Jvm.MethodName)) ∈ allw := allw_of (List.mem_append_right _ (List.mem_of_getElem? (i := 719) (by decide +kernel))) (by decide +kernel)
theorem wd_720 : (Cond.code ({ cls := "PlaceFinderModel", name := "modules", desc := "(III)J" } : Jvm.MethodName) prog_7_method_33_code (15 : Nat) (Option.some Jvm.ClassFile.FieldType.long)) ∈ allw := allw_of (List.mem_append_right _ (List.mem_of_getElem? (i := 720) (by decide +kernel))) (by decide +kernel)
theorem wd_721 : (Cond.constantLong "PlaceFinderLaw" (50 : Nat) (4294967295 : Int64)) ∈ allw := allw_of (List.mem_append_right _ (List.mem_of_getElem? (i := 721) (by decide +kernel))) (by decide +kernel)
theorem ws_0 : (Cond.selects "java/lang/Throwable" ⟨"java/lang/Throwable", "fillInStackTrace", "(I)Ljava/lang/Throwable;"⟩ ⟨"java/lang/Throwable", "fillInStackTrace", "(I)Ljava/lang/Throwable;"⟩) ∈ allw := allw_of (List.mem_append_left _ (List.mem_of_getElem? (i := 0) (by decide +kernel))) (by decide +kernel)
theorem ws_1 : (Cond.selects "PlaceFinder" ⟨"PlaceFinder", "drawFixed", "(LPlaceFinder$Place;)I"⟩ ⟨"PlaceFinder", "drawFixed", "(LPlaceFinder$Place;)I"⟩) ∈ allw := allw_of (List.mem_append_left _ (List.mem_of_getElem? (i := 1) (by decide +kernel))) (by decide +kernel)
theorem ws_2 : (Cond.selects "PlaceFinder" ⟨"PlaceFinder", "drawCorner", "(LPlaceFinder$Place;II)I"⟩ ⟨"PlaceFinder", "drawCorner", "(LPlaceFinder$Place;II)I"⟩) ∈ allw := allw_of (List.mem_append_left _ (List.mem_of_getElem? (i := 2) (by decide +kernel))) (by decide +kernel)
theorem ws_3 : (Cond.selects "PlaceFinder" ⟨"PlaceFinder", "drawModule", "(LPlaceFinder$Place;IIZ)I"⟩ ⟨"PlaceFinder", "drawModule", "(LPlaceFinder$Place;IIZ)I"⟩) ∈ allw := allw_of (List.mem_append_left _ (List.mem_of_getElem? (i := 3) (by decide +kernel))) (by decide +kernel)
theorem ws_4 : (Cond.selects "PlaceFinder$Paper" ⟨"PlaceFinder$Paper", "isLight", "(I)Z"⟩ ⟨"PlaceFinder$Paper", "isLight", "(I)Z"⟩) ∈ allw := allw_of (List.mem_append_left _ (List.mem_of_getElem? (i := 4) (by decide +kernel))) (by decide +kernel)
theorem ws_5 : (Cond.selects "PlaceFinder$Paper" ⟨"PlaceFinder$Paper", "addUpRow", "(I)V"⟩ ⟨"PlaceFinder$Paper", "addUpRow", "(I)V"⟩) ∈ allw := allw_of (List.mem_append_left _ (List.mem_of_getElem? (i := 5) (by decide +kernel))) (by decide +kernel)
theorem ws_6 : (Cond.selects "PlaceFinder$Search" ⟨"PlaceFinder$Search", "siftFinders", "(IIIII)V"⟩ ⟨"PlaceFinder$Search", "siftFinders", "(IIIII)V"⟩) ∈ allw := allw_of (List.mem_append_left _ (List.mem_of_getElem? (i := 6) (by decide +kernel))) (by decide +kernel)
theorem ws_7 : (Cond.selects "PlaceFinder$Search" ⟨"PlaceFinder$Search", "takeTile", "(IIII)V"⟩ ⟨"PlaceFinder$Search", "takeTile", "(IIII)V"⟩) ∈ allw := allw_of (List.mem_append_left _ (List.mem_of_getElem? (i := 7) (by decide +kernel))) (by decide +kernel)
theorem ws_8 : (Cond.selects "PlaceFinder$Search" ⟨"PlaceFinder$Search", "finderFloor", "(II)I"⟩ ⟨"PlaceFinder$Search", "finderFloor", "(II)I"⟩) ∈ allw := allw_of (List.mem_append_left _ (List.mem_of_getElem? (i := 8) (by decide +kernel))) (by decide +kernel)
theorem ws_9 : (Cond.selects "PlaceFinder$Search" ⟨"PlaceFinder$Search", "mostDark", "(IIII)I"⟩ ⟨"PlaceFinder$Search", "mostDark", "(IIII)I"⟩) ∈ allw := allw_of (List.mem_append_left _ (List.mem_of_getElem? (i := 9) (by decide +kernel))) (by decide +kernel)
theorem ws_10 : (Cond.selects "PlaceFinder$Search" ⟨"PlaceFinder$Search", "isSingle", "()Z"⟩ ⟨"PlaceFinder$Search", "isSingle", "()Z"⟩) ∈ allw := allw_of (List.mem_append_left _ (List.mem_of_getElem? (i := 10) (by decide +kernel))) (by decide +kernel)
theorem ws_11 : (Cond.selects "PlaceFinder$Search" ⟨"PlaceFinder$Search", "leastDark", "(IIII)I"⟩ ⟨"PlaceFinder$Search", "leastDark", "(IIII)I"⟩) ∈ allw := allw_of (List.mem_append_left _ (List.mem_of_getElem? (i := 11) (by decide +kernel))) (by decide +kernel)
theorem ws_12 : (Cond.selects "PlaceFinder$Search" ⟨"PlaceFinder$Search", "isAlike", "(III)Z"⟩ ⟨"PlaceFinder$Search", "isAlike", "(III)Z"⟩) ∈ allw := allw_of (List.mem_append_left _ (List.mem_of_getElem? (i := 12) (by decide +kernel))) (by decide +kernel)
theorem ws_13 : (Cond.selects "PlaceFinder$Search" ⟨"PlaceFinder$Search", "siftVersions", "(IIII)V"⟩ ⟨"PlaceFinder$Search", "siftVersions", "(IIII)V"⟩) ∈ allw := allw_of (List.mem_append_left _ (List.mem_of_getElem? (i := 13) (by decide +kernel))) (by decide +kernel)
theorem ws_14 : (Cond.selects "PlaceFinder$Search" ⟨"PlaceFinder$Search", "cornerWrong", "(III)I"⟩ ⟨"PlaceFinder$Search", "cornerWrong", "(III)I"⟩) ∈ allw := allw_of (List.mem_append_left _ (List.mem_of_getElem? (i := 14) (by decide +kernel))) (by decide +kernel)
theorem ws_15 : (Cond.selects "PlaceFinder$Search" ⟨"PlaceFinder$Search", "siftPlaces", "(IIIIIII)V"⟩ ⟨"PlaceFinder$Search", "siftPlaces", "(IIIIIII)V"⟩) ∈ allw := allw_of (List.mem_append_left _ (List.mem_of_getElem? (i := 15) (by decide +kernel))) (by decide +kernel)
theorem ws_16 : (Cond.selects "PlaceFinder$Search" ⟨"PlaceFinder$Search", "finderX", "(I)I"⟩ ⟨"PlaceFinder$Search", "finderX", "(I)I"⟩) ∈ allw := allw_of (List.mem_append_left _ (List.mem_of_getElem? (i := 16) (by decide +kernel))) (by decide +kernel)
theorem ws_17 : (Cond.selects "PlaceFinder$Search" ⟨"PlaceFinder$Search", "finderY", "(I)I"⟩ ⟨"PlaceFinder$Search", "finderY", "(I)I"⟩) ∈ allw := allw_of (List.mem_append_left _ (List.mem_of_getElem? (i := 17) (by decide +kernel))) (by decide +kernel)
theorem ws_18 : (Cond.selects "PlaceFinder$Search" ⟨"PlaceFinder$Search", "borderFloor", "(III)I"⟩ ⟨"PlaceFinder$Search", "borderFloor", "(III)I"⟩) ∈ allw := allw_of (List.mem_append_left _ (List.mem_of_getElem? (i := 18) (by decide +kernel))) (by decide +kernel)
theorem ws_19 : (Cond.selects "PlaceFinder$Search" ⟨"PlaceFinder$Search", "withCorner", "(III)I"⟩ ⟨"PlaceFinder$Search", "withCorner", "(III)I"⟩) ∈ allw := allw_of (List.mem_append_left _ (List.mem_of_getElem? (i := 19) (by decide +kernel))) (by decide +kernel)
theorem ws_20 : (Cond.selects "PlaceFinder$Search" ⟨"PlaceFinder$Search", "spotFloor", "(I)I"⟩ ⟨"PlaceFinder$Search", "spotFloor", "(I)I"⟩) ∈ allw := allw_of (List.mem_append_left _ (List.mem_of_getElem? (i := 20) (by decide +kernel))) (by decide +kernel)
theorem ws_21 : (Cond.selects "PlaceFinder$Search" ⟨"PlaceFinder$Search", "lineFloor", "(I)I"⟩ ⟨"PlaceFinder$Search", "lineFloor", "(I)I"⟩) ∈ allw := allw_of (List.mem_append_left _ (List.mem_of_getElem? (i := 21) (by decide +kernel))) (by decide +kernel)
theorem ws_22 : (Cond.selects "PlaceFinder$Search" ⟨"PlaceFinder$Search", "lineX", "(I)I"⟩ ⟨"PlaceFinder$Search", "lineX", "(I)I"⟩) ∈ allw := allw_of (List.mem_append_left _ (List.mem_of_getElem? (i := 22) (by decide +kernel))) (by decide +kernel)
theorem ws_23 : (Cond.selects "PlaceFinder$Search" ⟨"PlaceFinder$Search", "lineY", "(I)I"⟩ ⟨"PlaceFinder$Search", "lineY", "(I)I"⟩) ∈ allw := allw_of (List.mem_append_left _ (List.mem_of_getElem? (i := 23) (by decide +kernel))) (by decide +kernel)
theorem ws_24 : (Cond.selects "PlaceFinder$Search" ⟨"PlaceFinder$Search", "judge", "(I)V"⟩ ⟨"PlaceFinder$Search", "judge", "(I)V"⟩) ∈ allw := allw_of (List.mem_append_left _ (List.mem_of_getElem? (i := 24) (by decide +kernel))) (by decide +kernel)
theorem ws_25 : (Cond.selects "PlaceFinder$Search" ⟨"PlaceFinder$Search", "withLine", "(II)I"⟩ ⟨"PlaceFinder$Search", "withLine", "(II)I"⟩) ∈ allw := allw_of (List.mem_append_left _ (List.mem_of_getElem? (i := 25) (by decide +kernel))) (by decide +kernel)
theorem ws_26 : (Cond.selects "PlaceFinder$PlaceList" ⟨"PlaceFinder$PlaceList", "leads", "(I)Z"⟩ ⟨"PlaceFinder$PlaceList", "leads", "(I)Z"⟩) ∈ allw := allw_of (List.mem_append_left _ (List.mem_of_getElem? (i := 26) (by decide +kernel))) (by decide +kernel)
theorem ws_27 : (Cond.selects "PlaceFinder$PlaceList" ⟨"PlaceFinder$PlaceList", "isBetter", "(II)Z"⟩ ⟨"PlaceFinder$PlaceList", "isBetter", "(II)Z"⟩) ∈ allw := allw_of (List.mem_append_left _ (List.mem_of_getElem? (i := 27) (by decide +kernel))) (by decide +kernel)
theorem ws_28 : (Cond.selects "PlaceFinder" ⟨"PlaceFinder", "isMostlyDark", "(LPlaceFinder$Place;II)Z"⟩ ⟨"PlaceFinder", "isMostlyDark", "(LPlaceFinder$Place;II)Z"⟩) ∈ allw := allw_of (List.mem_append_left _ (List.mem_of_getElem? (i := 28) (by decide +kernel))) (by decide +kernel)
theorem ws_29 : (Cond.selects "PlaceFinderModel" ⟨"PlaceFinderModel", "forget", "()V"⟩ ⟨"PlaceFinderModel", "forget", "()V"⟩) ∈ allw := allw_of (List.mem_append_left _ (List.mem_of_getElem? (i := 29) (by decide +kernel))) (by decide +kernel)
theorem ws_30 : (Cond.selects "PlaceFinderModel" ⟨"PlaceFinderModel", "isOn", "(JJ)Z"⟩ ⟨"PlaceFinderModel", "isOn", "(JJ)Z"⟩) ∈ allw := allw_of (List.mem_append_left _ (List.mem_of_getElem? (i := 30) (by decide +kernel))) (by decide +kernel)
theorem ws_31 : (Cond.selects "PlaceFinderModel" ⟨"PlaceFinderModel", "isDark", "(II)Z"⟩ ⟨"PlaceFinderModel", "isDark", "(II)Z"⟩) ∈ allw := allw_of (List.mem_append_left _ (List.mem_of_getElem? (i := 31) (by decide +kernel))) (by decide +kernel)
theorem ws_32 : (Cond.selects "PlaceFinderModel" ⟨"PlaceFinderModel", "isPlace", "(III)Z"⟩ ⟨"PlaceFinderModel", "isPlace", "(III)Z"⟩) ∈ allw := allw_of (List.mem_append_left _ (List.mem_of_getElem? (i := 32) (by decide +kernel))) (by decide +kernel)
theorem ws_33 : (Cond.selects "PlaceFinderModel" ⟨"PlaceFinderModel", "differ", "(IIIZZ)I"⟩ ⟨"PlaceFinderModel", "differ", "(IIIZZ)I"⟩) ∈ allw := allw_of (List.mem_append_left _ (List.mem_of_getElem? (i := 33) (by decide +kernel))) (by decide +kernel)
theorem ws_34 : (Cond.selects "PlaceFinderModel" ⟨"PlaceFinderModel", "add", "()V"⟩ ⟨"PlaceFinderModel", "add", "()V"⟩) ∈ allw := allw_of (List.mem_append_left _ (List.mem_of_getElem? (i := 34) (by decide +kernel))) (by decide +kernel)
theorem ws_35 : (Cond.selects "PlaceFinderModel" ⟨"PlaceFinderModel", "list", "(I)V"⟩ ⟨"PlaceFinderModel", "list", "(I)V"⟩) ∈ allw := allw_of (List.mem_append_left _ (List.mem_of_getElem? (i := 35) (by decide +kernel))) (by decide +kernel)
theorem ws_36 : (Cond.selects "PlaceFinderModel" ⟨"PlaceFinderModel", "look", "(III)Z"⟩ ⟨"PlaceFinderModel", "look", "(III)Z"⟩) ∈ allw := allw_of (List.mem_append_left _ (List.mem_of_getElem? (i := 36) (by decide +kernel))) (by decide +kernel)
theorem ws_37 : (Cond.selects "PlaceFinderModel" ⟨"PlaceFinderModel", "wrong", "(IIIIII)I"⟩ ⟨"PlaceFinderModel", "wrong", "(IIIIII)I"⟩) ∈ allw := allw_of (List.mem_append_left _ (List.mem_of_getElem? (i := 37) (by decide +kernel))) (by decide +kernel)
theorem ws_38 : (Cond.selects "PlaceFinderModel" ⟨"PlaceFinderModel", "darkIn", "(IIIIII)I"⟩ ⟨"PlaceFinderModel", "darkIn", "(IIIIII)I"⟩) ∈ allw := allw_of (List.mem_append_left _ (List.mem_of_getElem? (i := 38) (by decide +kernel))) (by decide +kernel)
theorem ws_39 : (Cond.selects "PlaceFinderModel" ⟨"PlaceFinderModel", "enter", "(IIIIII)V"⟩ ⟨"PlaceFinderModel", "enter", "(IIIIII)V"⟩) ∈ allw := allw_of (List.mem_append_left _ (List.mem_of_getElem? (i := 39) (by decide +kernel))) (by decide +kernel)
theorem ws_40 : (Cond.selects "PlaceFinderModel" ⟨"PlaceFinderModel", "order", "()V"⟩ ⟨"PlaceFinderModel", "order", "()V"⟩) ∈ allw := allw_of (List.mem_append_left _ (List.mem_of_getElem? (i := 40) (by decide +kernel))) (by decide +kernel)
theorem ws_41 : (Cond.selects "PlaceFinderModel" ⟨"PlaceFinderModel", "isBefore", "(II)Z"⟩ ⟨"PlaceFinderModel", "isBefore", "(II)Z"⟩) ∈ allw := allw_of (List.mem_append_left _ (List.mem_of_getElem? (i := 41) (by decide +kernel))) (by decide +kernel)
theorem ws_42 : (Cond.selects "PlaceFinderModel" ⟨"PlaceFinderModel", "leads", "(I)Z"⟩ ⟨"PlaceFinderModel", "leads", "(I)Z"⟩) ∈ allw := allw_of (List.mem_append_left _ (List.mem_of_getElem? (i := 42) (by decide +kernel))) (by decide +kernel)
theorem ws_43 : (Cond.selects "PlaceFinderModel" ⟨"PlaceFinderModel", "meet", "(II)Z"⟩ ⟨"PlaceFinderModel", "meet", "(II)Z"⟩) ∈ allw := allw_of (List.mem_append_left _ (List.mem_of_getElem? (i := 43) (by decide +kernel))) (by decide +kernel)
theorem i_Paper : ∀ w ∈ u_ws R_Paper T_Paper 5, w ∈ allw := by
  intro w hw
  obtain ⟨k, hk, rfl⟩ := List.mem_map.mp hw
  have hk := List.mem_range.mp hk
  match k, hk with
  | 0, _ => exact wd_46
  | 1, _ => exact wd_48
  | 2, _ => exact wd_50
  | 3, _ => exact wd_52
  | 4, _ => exact wd_54
theorem i_Place : ∀ w ∈ u_ws R_Place T_Place 5, w ∈ allw := by
  intro w hw
  obtain ⟨k, hk, rfl⟩ := List.mem_map.mp hw
  have hk := List.mem_range.mp hk
  match k, hk with
  | 0, _ => exact wd_328
  | 1, _ => exact wd_330
  | 2, _ => exact wd_332
  | 3, _ => exact wd_334
  | 4, _ => exact wd_336
theorem i_List : ∀ w ∈ u_ws R_List T_List 3, w ∈ allw := by
  intro w hw
  obtain ⟨k, hk, rfl⟩ := List.mem_map.mp hw
  have hk := List.mem_range.mp hk
  match k, hk with
  | 0, _ => exact wd_71
  | 1, _ => exact wd_73
  | 2, _ => exact wd_75
theorem i_Search : ∀ w ∈ u_ws R_Search T_Search 14, w ∈ allw := by
  intro w hw
  obtain ⟨k, hk, rfl⟩ := List.mem_map.mp hw
  have hk := List.mem_range.mp hk
  match k, hk with
  | 0, _ => exact wd_95
  | 1, _ => exact wd_97
  | 2, _ => exact wd_99
  | 3, _ => exact wd_101
  | 4, _ => exact wd_103
  | 5, _ => exact wd_105
  | 6, _ => exact wd_107
  | 7, _ => exact wd_109
  | 8, _ => exact wd_111
  | 9, _ => exact wd_113
  | 10, _ => exact wd_115
  | 11, _ => exact wd_117
  | 12, _ => exact wd_119
  | 13, _ => exact wd_121
theorem i_PF : ∀ w ∈ u_ws R_PF T_PF 4, w ∈ allw := by
  intro w hw
  obtain ⟨k, hk, rfl⟩ := List.mem_map.mp hw
  have hk := List.mem_range.mp hk
  match k, hk with
  | 0, _ => exact wd_130
  | 1, _ => exact wd_132
  | 2, _ => exact wd_134
  | 3, _ => exact wd_136
theorem i_Model : ∀ w ∈ u_ws R_Model T_Model 11, w ∈ allw := by
  intro w hw
  obtain ⟨k, hk, rfl⟩ := List.mem_map.mp hw
  have hk := List.mem_range.mp hk
  match k, hk with
  | 0, _ => exact wd_576
  | 1, _ => exact wd_578
  | 2, _ => exact wd_580
  | 3, _ => exact wd_582
  | 4, _ => exact wd_584
  | 5, _ => exact wd_586
  | 6, _ => exact wd_588
  | 7, _ => exact wd_590
  | 8, _ => exact wd_592
  | 9, _ => exact wd_594
  | 10, _ => exact wd_596
end
section
theorem d_Paper_init_0 : decode b_Paper_init 0 = .ok (.aload_n 0, 1) := by decide +kernel
theorem d_Paper_init_1 : decode b_Paper_init 1 = .ok (.invokespecial 3, 3) := by decide +kernel
theorem d_Paper_init_4 : decode b_Paper_init 4 = .ok (.aload_n 0, 1) := by decide +kernel
theorem d_Paper_init_5 : decode b_Paper_init 5 = .ok (.bipush 64, 2) := by decide +kernel
theorem d_Paper_init_7 : decode b_Paper_init 7 = .ok (.putfield 9, 3) := by decide +kernel
theorem d_Paper_init_10 : decode b_Paper_init 10 = .ok (.aload_n 0, 1) := by decide +kernel
theorem d_Paper_init_11 : decode b_Paper_init 11 = .ok (.bipush 64, 2) := by decide +kernel
theorem d_Paper_init_13 : decode b_Paper_init 13 = .ok (.putfield 15, 3) := by decide +kernel
theorem d_Paper_init_16 : decode b_Paper_init 16 = .ok (.aload_n 0, 1) := by decide +kernel
theorem d_Paper_init_17 : decode b_Paper_init 17 = .ok (.sipush 4096, 3) := by decide +kernel
theorem d_Paper_init_20 : decode b_Paper_init 20 = .ok (.newarray .long, 2) := by decide +kernel
theorem d_Paper_init_22 : decode b_Paper_init 22 = .ok (.putfield 18, 3) := by decide +kernel
theorem d_Paper_init_25 : decode b_Paper_init 25 = .ok (.aload_n 0, 1) := by decide +kernel
theorem d_Paper_init_26 : decode b_Paper_init 26 = .ok (.ldc 22, 2) := by decide +kernel
theorem d_Paper_init_28 : decode b_Paper_init 28 = .ok (.newarray .int, 2) := by decide +kernel
theorem d_Paper_init_30 : decode b_Paper_init 30 = .ok (.putfield 23, 3) := by decide +kernel
theorem d_Paper_init_33 : decode b_Paper_init 33 = .ok (.return_, 1) := by decide +kernel
theorem d_Paper_renew_0 : decode b_Paper_renew 0 = .ok (.aload_n 0, 1) := by decide +kernel
theorem d_Paper_renew_1 : decode b_Paper_renew 1 = .ok (.iload_n 1, 1) := by decide +kernel
theorem d_Paper_renew_2 : decode b_Paper_renew 2 = .ok (.putfield 9, 3) := by decide +kernel
theorem d_Paper_renew_5 : decode b_Paper_renew 5 = .ok (.aload_n 0, 1) := by decide +kernel
theorem d_Paper_renew_6 : decode b_Paper_renew 6 = .ok (.iload_n 2, 1) := by decide +kernel
theorem d_Paper_renew_7 : decode b_Paper_renew 7 = .ok (.putfield 15, 3) := by decide +kernel
theorem d_Paper_renew_10 : decode b_Paper_renew 10 = .ok (.aload_n 0, 1) := by decide +kernel
theorem d_Paper_renew_11 : decode b_Paper_renew 11 = .ok (.iconst 0, 1) := by decide +kernel
theorem d_Paper_renew_12 : decode b_Paper_renew 12 = .ok (.putfield 27, 3) := by decide +kernel
theorem d_Paper_renew_15 : decode b_Paper_renew 15 = .ok (.aload_n 0, 1) := by decide +kernel
theorem d_Paper_renew_16 : decode b_Paper_renew 16 = .ok (.getfield 18, 3) := by decide +kernel
theorem d_Paper_renew_19 : decode b_Paper_renew 19 = .ok (.lconst 0, 1) := by decide +kernel
theorem d_Paper_renew_20 : decode b_Paper_renew 20 = .ok (.invokestatic 30, 3) := by decide +kernel
theorem d_Paper_renew_23 : decode b_Paper_renew 23 = .ok (.return_, 1) := by decide +kernel
theorem d_Paper_bits_0 : decode b_Paper_bits 0 = .ok (.iload_n 2, 1) := by decide +kernel
theorem d_Paper_bits_1 : decode b_Paper_bits 1 = .ok (.ifCond .lt 25, 3) := by decide +kernel
theorem d_Paper_bits_4 : decode b_Paper_bits 4 = .ok (.iload_n 2, 1) := by decide +kernel
theorem d_Paper_bits_5 : decode b_Paper_bits 5 = .ok (.aload_n 0, 1) := by decide +kernel
theorem d_Paper_bits_6 : decode b_Paper_bits 6 = .ok (.getfield 15, 3) := by decide +kernel
theorem d_Paper_bits_9 : decode b_Paper_bits 9 = .ok (.if_icmp .ge 17, 3) := by decide +kernel
theorem d_Paper_bits_12 : decode b_Paper_bits 12 = .ok (.iload_n 1, 1) := by decide +kernel
theorem d_Paper_bits_13 : decode b_Paper_bits 13 = .ok (.bipush (-64), 2) := by decide +kernel
theorem d_Paper_bits_15 : decode b_Paper_bits 15 = .ok (.if_icmp .le 11, 3) := by decide +kernel
theorem d_Paper_bits_18 : decode b_Paper_bits 18 = .ok (.iload_n 1, 1) := by decide +kernel
theorem d_Paper_bits_19 : decode b_Paper_bits 19 = .ok (.aload_n 0, 1) := by decide +kernel
theorem d_Paper_bits_20 : decode b_Paper_bits 20 = .ok (.getfield 9, 3) := by decide +kernel
theorem d_Paper_bits_23 : decode b_Paper_bits 23 = .ok (.if_icmp .lt 5, 3) := by decide +kernel
theorem d_Paper_bits_26 : decode b_Paper_bits 26 = .ok (.lconst 0, 1) := by decide +kernel
theorem d_Paper_bits_27 : decode b_Paper_bits 27 = .ok (.lreturn, 1) := by decide +kernel
theorem d_Paper_bits_28 : decode b_Paper_bits 28 = .ok (.iload_n 2, 1) := by decide +kernel
theorem d_Paper_bits_29 : decode b_Paper_bits 29 = .ok (.bipush 8, 2) := by decide +kernel
theorem d_Paper_bits_31 : decode b_Paper_bits 31 = .ok (.imul, 1) := by decide +kernel
theorem d_Paper_bits_32 : decode b_Paper_bits 32 = .ok (.istore_n 3, 1) := by decide +kernel
theorem d_Paper_bits_33 : decode b_Paper_bits 33 = .ok (.iload_n 1, 1) := by decide +kernel
theorem d_Paper_bits_34 : decode b_Paper_bits 34 = .ok (.ifCond .ge 13, 3) := by decide +kernel
theorem d_Paper_bits_37 : decode b_Paper_bits 37 = .ok (.aload_n 0, 1) := by decide +kernel
theorem d_Paper_bits_38 : decode b_Paper_bits 38 = .ok (.getfield 18, 3) := by decide +kernel
theorem d_Paper_bits_41 : decode b_Paper_bits 41 = .ok (.iload_n 3, 1) := by decide +kernel
theorem d_Paper_bits_42 : decode b_Paper_bits 42 = .ok (.laload, 1) := by decide +kernel
theorem d_Paper_bits_43 : decode b_Paper_bits 43 = .ok (.iload_n 1, 1) := by decide +kernel
theorem d_Paper_bits_44 : decode b_Paper_bits 44 = .ok (.ineg, 1) := by decide +kernel
theorem d_Paper_bits_45 : decode b_Paper_bits 45 = .ok (.lshl, 1) := by decide +kernel
theorem d_Paper_bits_46 : decode b_Paper_bits 46 = .ok (.lreturn, 1) := by decide +kernel
theorem d_Paper_bits_47 : decode b_Paper_bits 47 = .ok (.iload_n 1, 1) := by decide +kernel
theorem d_Paper_bits_48 : decode b_Paper_bits 48 = .ok (.bipush 6, 2) := by decide +kernel
theorem d_Paper_bits_50 : decode b_Paper_bits 50 = .ok (.ishr, 1) := by decide +kernel
theorem d_Paper_bits_51 : decode b_Paper_bits 51 = .ok (.istore 4, 2) := by decide +kernel
theorem d_Paper_bits_53 : decode b_Paper_bits 53 = .ok (.iload_n 1, 1) := by decide +kernel
theorem d_Paper_bits_54 : decode b_Paper_bits 54 = .ok (.bipush 63, 2) := by decide +kernel
theorem d_Paper_bits_56 : decode b_Paper_bits 56 = .ok (.iand, 1) := by decide +kernel
theorem d_Paper_bits_57 : decode b_Paper_bits 57 = .ok (.istore 5, 2) := by decide +kernel
theorem d_Paper_bits_59 : decode b_Paper_bits 59 = .ok (.aload_n 0, 1) := by decide +kernel
theorem d_Paper_bits_60 : decode b_Paper_bits 60 = .ok (.getfield 18, 3) := by decide +kernel
theorem d_Paper_bits_63 : decode b_Paper_bits 63 = .ok (.iload_n 3, 1) := by decide +kernel
theorem d_Paper_bits_64 : decode b_Paper_bits 64 = .ok (.iload 4, 2) := by decide +kernel
theorem d_Paper_bits_66 : decode b_Paper_bits 66 = .ok (.iadd, 1) := by decide +kernel
theorem d_Paper_bits_67 : decode b_Paper_bits 67 = .ok (.laload, 1) := by decide +kernel
theorem d_Paper_bits_68 : decode b_Paper_bits 68 = .ok (.iload 5, 2) := by decide +kernel
theorem d_Paper_bits_70 : decode b_Paper_bits 70 = .ok (.lushr, 1) := by decide +kernel
theorem d_Paper_bits_71 : decode b_Paper_bits 71 = .ok (.lstore 6, 2) := by decide +kernel
theorem d_Paper_bits_73 : decode b_Paper_bits 73 = .ok (.iload 5, 2) := by decide +kernel
theorem d_Paper_bits_75 : decode b_Paper_bits 75 = .ok (.ifCond .eq 34, 3) := by decide +kernel
theorem d_Paper_bits_78 : decode b_Paper_bits 78 = .ok (.iload 4, 2) := by decide +kernel
theorem d_Paper_bits_80 : decode b_Paper_bits 80 = .ok (.iconst 1, 1) := by decide +kernel
theorem d_Paper_bits_81 : decode b_Paper_bits 81 = .ok (.iadd, 1) := by decide +kernel
theorem d_Paper_bits_82 : decode b_Paper_bits 82 = .ok (.bipush 8, 2) := by decide +kernel
theorem d_Paper_bits_84 : decode b_Paper_bits 84 = .ok (.if_icmp .ge 25, 3) := by decide +kernel
theorem d_Paper_bits_87 : decode b_Paper_bits 87 = .ok (.lload 6, 2) := by decide +kernel
theorem d_Paper_bits_89 : decode b_Paper_bits 89 = .ok (.aload_n 0, 1) := by decide +kernel
theorem d_Paper_bits_90 : decode b_Paper_bits 90 = .ok (.getfield 18, 3) := by decide +kernel
theorem d_Paper_bits_93 : decode b_Paper_bits 93 = .ok (.iload_n 3, 1) := by decide +kernel
theorem d_Paper_bits_94 : decode b_Paper_bits 94 = .ok (.iload 4, 2) := by decide +kernel
theorem d_Paper_bits_96 : decode b_Paper_bits 96 = .ok (.iadd, 1) := by decide +kernel
theorem d_Paper_bits_97 : decode b_Paper_bits 97 = .ok (.iconst 1, 1) := by decide +kernel
theorem d_Paper_bits_98 : decode b_Paper_bits 98 = .ok (.iadd, 1) := by decide +kernel
theorem d_Paper_bits_99 : decode b_Paper_bits 99 = .ok (.laload, 1) := by decide +kernel
theorem d_Paper_bits_100 : decode b_Paper_bits 100 = .ok (.bipush 64, 2) := by decide +kernel
theorem d_Paper_bits_102 : decode b_Paper_bits 102 = .ok (.iload 5, 2) := by decide +kernel
theorem d_Paper_bits_104 : decode b_Paper_bits 104 = .ok (.isub, 1) := by decide +kernel
theorem d_Paper_bits_105 : decode b_Paper_bits 105 = .ok (.lshl, 1) := by decide +kernel
theorem d_Paper_bits_106 : decode b_Paper_bits 106 = .ok (.lor, 1) := by decide +kernel
theorem d_Paper_bits_107 : decode b_Paper_bits 107 = .ok (.lstore 6, 2) := by decide +kernel
theorem d_Paper_bits_109 : decode b_Paper_bits 109 = .ok (.lload 6, 2) := by decide +kernel
theorem d_Paper_bits_111 : decode b_Paper_bits 111 = .ok (.lreturn, 1) := by decide +kernel
theorem d_Paper_flip_0 : decode b_Paper_flip 0 = .ok (.iload_n 2, 1) := by decide +kernel
theorem d_Paper_flip_1 : decode b_Paper_flip 1 = .ok (.ifCond .lt 25, 3) := by decide +kernel
theorem d_Paper_flip_4 : decode b_Paper_flip 4 = .ok (.iload_n 2, 1) := by decide +kernel
theorem d_Paper_flip_5 : decode b_Paper_flip 5 = .ok (.aload_n 0, 1) := by decide +kernel
theorem d_Paper_flip_6 : decode b_Paper_flip 6 = .ok (.getfield 15, 3) := by decide +kernel
theorem d_Paper_flip_9 : decode b_Paper_flip 9 = .ok (.if_icmp .ge 17, 3) := by decide +kernel
theorem d_Paper_flip_12 : decode b_Paper_flip 12 = .ok (.iload_n 1, 1) := by decide +kernel
theorem d_Paper_flip_13 : decode b_Paper_flip 13 = .ok (.bipush (-64), 2) := by decide +kernel
theorem d_Paper_flip_15 : decode b_Paper_flip 15 = .ok (.if_icmp .le 11, 3) := by decide +kernel
theorem d_Paper_flip_18 : decode b_Paper_flip 18 = .ok (.iload_n 1, 1) := by decide +kernel
theorem d_Paper_flip_19 : decode b_Paper_flip 19 = .ok (.aload_n 0, 1) := by decide +kernel
theorem d_Paper_flip_20 : decode b_Paper_flip 20 = .ok (.getfield 9, 3) := by decide +kernel
theorem d_Paper_flip_23 : decode b_Paper_flip 23 = .ok (.if_icmp .lt 5, 3) := by decide +kernel
theorem d_Paper_flip_26 : decode b_Paper_flip 26 = .ok (.iconst 0, 1) := by decide +kernel
theorem d_Paper_flip_27 : decode b_Paper_flip 27 = .ok (.ireturn, 1) := by decide +kernel
theorem d_Paper_flip_28 : decode b_Paper_flip 28 = .ok (.iload_n 1, 1) := by decide +kernel
theorem d_Paper_flip_29 : decode b_Paper_flip 29 = .ok (.ifCond .ge 10, 3) := by decide +kernel
theorem d_Paper_flip_32 : decode b_Paper_flip 32 = .ok (.lload_n 3, 1) := by decide +kernel
theorem d_Paper_flip_33 : decode b_Paper_flip 33 = .ok (.iload_n 1, 1) := by decide +kernel
theorem d_Paper_flip_34 : decode b_Paper_flip 34 = .ok (.ineg, 1) := by decide +kernel
theorem d_Paper_flip_35 : decode b_Paper_flip 35 = .ok (.lushr, 1) := by decide +kernel
theorem d_Paper_flip_36 : decode b_Paper_flip 36 = .ok (.goto 4, 3) := by decide +kernel
theorem d_Paper_flip_39 : decode b_Paper_flip 39 = .ok (.lload_n 3, 1) := by decide +kernel
theorem d_Paper_flip_40 : decode b_Paper_flip 40 = .ok (.lstore 5, 2) := by decide +kernel
theorem d_Paper_flip_42 : decode b_Paper_flip 42 = .ok (.iload_n 1, 1) := by decide +kernel
theorem d_Paper_flip_43 : decode b_Paper_flip 43 = .ok (.iconst 0, 1) := by decide +kernel
theorem d_Paper_flip_44 : decode b_Paper_flip 44 = .ok (.invokestatic 36, 3) := by decide +kernel
theorem d_Paper_flip_47 : decode b_Paper_flip 47 = .ok (.istore 7, 2) := by decide +kernel
theorem d_Paper_flip_49 : decode b_Paper_flip 49 = .ok (.aload_n 0, 1) := by decide +kernel
theorem d_Paper_flip_50 : decode b_Paper_flip 50 = .ok (.getfield 9, 3) := by decide +kernel
theorem d_Paper_flip_53 : decode b_Paper_flip 53 = .ok (.iload 7, 2) := by decide +kernel
theorem d_Paper_flip_55 : decode b_Paper_flip 55 = .ok (.isub, 1) := by decide +kernel
theorem d_Paper_flip_56 : decode b_Paper_flip 56 = .ok (.bipush 64, 2) := by decide +kernel
theorem d_Paper_flip_58 : decode b_Paper_flip 58 = .ok (.if_icmp .ge 19, 3) := by decide +kernel
theorem d_Paper_flip_61 : decode b_Paper_flip 61 = .ok (.lload 5, 2) := by decide +kernel
theorem d_Paper_flip_63 : decode b_Paper_flip 63 = .ok (.lconst 1, 1) := by decide +kernel
theorem d_Paper_flip_64 : decode b_Paper_flip 64 = .ok (.aload_n 0, 1) := by decide +kernel
theorem d_Paper_flip_65 : decode b_Paper_flip 65 = .ok (.getfield 9, 3) := by decide +kernel
theorem d_Paper_flip_68 : decode b_Paper_flip 68 = .ok (.iload 7, 2) := by decide +kernel
theorem d_Paper_flip_70 : decode b_Paper_flip 70 = .ok (.isub, 1) := by decide +kernel
theorem d_Paper_flip_71 : decode b_Paper_flip 71 = .ok (.lshl, 1) := by decide +kernel
theorem d_Paper_flip_72 : decode b_Paper_flip 72 = .ok (.lconst 1, 1) := by decide +kernel
theorem d_Paper_flip_73 : decode b_Paper_flip 73 = .ok (.lsub, 1) := by decide +kernel
theorem d_Paper_flip_74 : decode b_Paper_flip 74 = .ok (.land, 1) := by decide +kernel
theorem d_Paper_flip_75 : decode b_Paper_flip 75 = .ok (.lstore 5, 2) := by decide +kernel
theorem d_Paper_flip_77 : decode b_Paper_flip 77 = .ok (.lload 5, 2) := by decide +kernel
theorem d_Paper_flip_79 : decode b_Paper_flip 79 = .ok (.lconst 0, 1) := by decide +kernel
theorem d_Paper_flip_80 : decode b_Paper_flip 80 = .ok (.lcmp, 1) := by decide +kernel
theorem d_Paper_flip_81 : decode b_Paper_flip 81 = .ok (.ifCond .ne 5, 3) := by decide +kernel
theorem d_Paper_flip_84 : decode b_Paper_flip 84 = .ok (.iconst 0, 1) := by decide +kernel
theorem d_Paper_flip_85 : decode b_Paper_flip 85 = .ok (.ireturn, 1) := by decide +kernel
theorem d_Paper_flip_86 : decode b_Paper_flip 86 = .ok (.iload_n 2, 1) := by decide +kernel
theorem d_Paper_flip_87 : decode b_Paper_flip 87 = .ok (.bipush 8, 2) := by decide +kernel
theorem d_Paper_flip_89 : decode b_Paper_flip 89 = .ok (.imul, 1) := by decide +kernel
theorem d_Paper_flip_90 : decode b_Paper_flip 90 = .ok (.iload 7, 2) := by decide +kernel
theorem d_Paper_flip_92 : decode b_Paper_flip 92 = .ok (.bipush 6, 2) := by decide +kernel
theorem d_Paper_flip_94 : decode b_Paper_flip 94 = .ok (.ishr, 1) := by decide +kernel
theorem d_Paper_flip_95 : decode b_Paper_flip 95 = .ok (.iadd, 1) := by decide +kernel
theorem d_Paper_flip_96 : decode b_Paper_flip 96 = .ok (.istore 8, 2) := by decide +kernel
theorem d_Paper_flip_98 : decode b_Paper_flip 98 = .ok (.iload 7, 2) := by decide +kernel
theorem d_Paper_flip_100 : decode b_Paper_flip 100 = .ok (.bipush 63, 2) := by decide +kernel
theorem d_Paper_flip_102 : decode b_Paper_flip 102 = .ok (.iand, 1) := by decide +kernel
theorem d_Paper_flip_103 : decode b_Paper_flip 103 = .ok (.istore 9, 2) := by decide +kernel
theorem d_Paper_flip_105 : decode b_Paper_flip 105 = .ok (.aload_n 0, 1) := by decide +kernel
theorem d_Paper_flip_106 : decode b_Paper_flip 106 = .ok (.getfield 18, 3) := by decide +kernel
theorem d_Paper_flip_109 : decode b_Paper_flip 109 = .ok (.iload 8, 2) := by decide +kernel
theorem d_Paper_flip_111 : decode b_Paper_flip 111 = .ok (.dup2, 1) := by decide +kernel
theorem d_Paper_flip_112 : decode b_Paper_flip 112 = .ok (.laload, 1) := by decide +kernel
theorem d_Paper_flip_113 : decode b_Paper_flip 113 = .ok (.lload 5, 2) := by decide +kernel
theorem d_Paper_flip_115 : decode b_Paper_flip 115 = .ok (.iload 9, 2) := by decide +kernel
theorem d_Paper_flip_117 : decode b_Paper_flip 117 = .ok (.lshl, 1) := by decide +kernel
theorem d_Paper_flip_118 : decode b_Paper_flip 118 = .ok (.lxor, 1) := by decide +kernel
theorem d_Paper_flip_119 : decode b_Paper_flip 119 = .ok (.lastore, 1) := by decide +kernel
theorem d_Paper_flip_120 : decode b_Paper_flip 120 = .ok (.iload 9, 2) := by decide +kernel
theorem d_Paper_flip_122 : decode b_Paper_flip 122 = .ok (.ifCond .eq 35, 3) := by decide +kernel
theorem d_Paper_flip_125 : decode b_Paper_flip 125 = .ok (.iload 7, 2) := by decide +kernel
theorem d_Paper_flip_127 : decode b_Paper_flip 127 = .ok (.bipush 6, 2) := by decide +kernel
theorem d_Paper_flip_129 : decode b_Paper_flip 129 = .ok (.ishr, 1) := by decide +kernel
theorem d_Paper_flip_130 : decode b_Paper_flip 130 = .ok (.iconst 1, 1) := by decide +kernel
theorem d_Paper_flip_131 : decode b_Paper_flip 131 = .ok (.iadd, 1) := by decide +kernel
theorem d_Paper_flip_132 : decode b_Paper_flip 132 = .ok (.bipush 8, 2) := by decide +kernel
theorem d_Paper_flip_134 : decode b_Paper_flip 134 = .ok (.if_icmp .ge 23, 3) := by decide +kernel
theorem d_Paper_flip_137 : decode b_Paper_flip 137 = .ok (.aload_n 0, 1) := by decide +kernel
theorem d_Paper_flip_138 : decode b_Paper_flip 138 = .ok (.getfield 18, 3) := by decide +kernel
theorem d_Paper_flip_141 : decode b_Paper_flip 141 = .ok (.iload 8, 2) := by decide +kernel
theorem d_Paper_flip_143 : decode b_Paper_flip 143 = .ok (.iconst 1, 1) := by decide +kernel
theorem d_Paper_flip_144 : decode b_Paper_flip 144 = .ok (.iadd, 1) := by decide +kernel
theorem d_Paper_flip_145 : decode b_Paper_flip 145 = .ok (.dup2, 1) := by decide +kernel
theorem d_Paper_flip_146 : decode b_Paper_flip 146 = .ok (.laload, 1) := by decide +kernel
theorem d_Paper_flip_147 : decode b_Paper_flip 147 = .ok (.lload 5, 2) := by decide +kernel
theorem d_Paper_flip_149 : decode b_Paper_flip 149 = .ok (.bipush 64, 2) := by decide +kernel
theorem d_Paper_flip_151 : decode b_Paper_flip 151 = .ok (.iload 9, 2) := by decide +kernel
theorem d_Paper_flip_153 : decode b_Paper_flip 153 = .ok (.isub, 1) := by decide +kernel
theorem d_Paper_flip_154 : decode b_Paper_flip 154 = .ok (.lushr, 1) := by decide +kernel
theorem d_Paper_flip_155 : decode b_Paper_flip 155 = .ok (.lxor, 1) := by decide +kernel
theorem d_Paper_flip_156 : decode b_Paper_flip 156 = .ok (.lastore, 1) := by decide +kernel
theorem d_Paper_flip_157 : decode b_Paper_flip 157 = .ok (.aload_n 0, 1) := by decide +kernel
theorem d_Paper_flip_158 : decode b_Paper_flip 158 = .ok (.aload_n 0, 1) := by decide +kernel
theorem d_Paper_flip_159 : decode b_Paper_flip 159 = .ok (.getfield 27, 3) := by decide +kernel
theorem d_Paper_flip_162 : decode b_Paper_flip 162 = .ok (.iload_n 2, 1) := by decide +kernel
theorem d_Paper_flip_163 : decode b_Paper_flip 163 = .ok (.invokestatic 42, 3) := by decide +kernel
theorem d_Paper_flip_166 : decode b_Paper_flip 166 = .ok (.putfield 27, 3) := by decide +kernel
theorem d_Paper_flip_169 : decode b_Paper_flip 169 = .ok (.lload 5, 2) := by decide +kernel
theorem d_Paper_flip_171 : decode b_Paper_flip 171 = .ok (.invokestatic 45, 3) := by decide +kernel
theorem d_Paper_flip_174 : decode b_Paper_flip 174 = .ok (.ireturn, 1) := by decide +kernel
theorem d_Paper_paint_0 : decode b_Paper_paint 0 = .ok (.iload_n 1, 1) := by decide +kernel
theorem d_Paper_paint_1 : decode b_Paper_paint 1 = .ok (.iconst 0, 1) := by decide +kernel
theorem d_Paper_paint_2 : decode b_Paper_paint 2 = .ok (.invokestatic 36, 3) := by decide +kernel
theorem d_Paper_paint_5 : decode b_Paper_paint 5 = .ok (.istore 6, 2) := by decide +kernel
theorem d_Paper_paint_7 : decode b_Paper_paint 7 = .ok (.iload_n 2, 1) := by decide +kernel
theorem d_Paper_paint_8 : decode b_Paper_paint 8 = .ok (.iconst 0, 1) := by decide +kernel
theorem d_Paper_paint_9 : decode b_Paper_paint 9 = .ok (.invokestatic 36, 3) := by decide +kernel
theorem d_Paper_paint_12 : decode b_Paper_paint 12 = .ok (.istore 7, 2) := by decide +kernel
theorem d_Paper_paint_14 : decode b_Paper_paint 14 = .ok (.iload_n 1, 1) := by decide +kernel
theorem d_Paper_paint_15 : decode b_Paper_paint 15 = .ok (.i2l, 1) := by decide +kernel
theorem d_Paper_paint_16 : decode b_Paper_paint 16 = .ok (.iload_n 3, 1) := by decide +kernel
theorem d_Paper_paint_17 : decode b_Paper_paint 17 = .ok (.i2l, 1) := by decide +kernel
theorem d_Paper_paint_18 : decode b_Paper_paint 18 = .ok (.ladd, 1) := by decide +kernel
theorem d_Paper_paint_19 : decode b_Paper_paint 19 = .ok (.aload_n 0, 1) := by decide +kernel
theorem d_Paper_paint_20 : decode b_Paper_paint 20 = .ok (.getfield 9, 3) := by decide +kernel
theorem d_Paper_paint_23 : decode b_Paper_paint 23 = .ok (.i2l, 1) := by decide +kernel
theorem d_Paper_paint_24 : decode b_Paper_paint 24 = .ok (.invokestatic 51, 3) := by decide +kernel
theorem d_Paper_paint_27 : decode b_Paper_paint 27 = .ok (.l2i, 1) := by decide +kernel
theorem d_Paper_paint_28 : decode b_Paper_paint 28 = .ok (.istore 8, 2) := by decide +kernel
theorem d_Paper_paint_30 : decode b_Paper_paint 30 = .ok (.iload_n 2, 1) := by decide +kernel
theorem d_Paper_paint_31 : decode b_Paper_paint 31 = .ok (.i2l, 1) := by decide +kernel
theorem d_Paper_paint_32 : decode b_Paper_paint 32 = .ok (.iload 4, 2) := by decide +kernel
theorem d_Paper_paint_34 : decode b_Paper_paint 34 = .ok (.i2l, 1) := by decide +kernel
theorem d_Paper_paint_35 : decode b_Paper_paint 35 = .ok (.ladd, 1) := by decide +kernel
theorem d_Paper_paint_36 : decode b_Paper_paint 36 = .ok (.aload_n 0, 1) := by decide +kernel
theorem d_Paper_paint_37 : decode b_Paper_paint 37 = .ok (.getfield 15, 3) := by decide +kernel
theorem d_Paper_paint_40 : decode b_Paper_paint 40 = .ok (.i2l, 1) := by decide +kernel
theorem d_Paper_paint_41 : decode b_Paper_paint 41 = .ok (.invokestatic 51, 3) := by decide +kernel
theorem d_Paper_paint_44 : decode b_Paper_paint 44 = .ok (.l2i, 1) := by decide +kernel
theorem d_Paper_paint_45 : decode b_Paper_paint 45 = .ok (.istore 9, 2) := by decide +kernel
theorem d_Paper_paint_47 : decode b_Paper_paint 47 = .ok (.iconst 0, 1) := by decide +kernel
theorem d_Paper_paint_48 : decode b_Paper_paint 48 = .ok (.istore 10, 2) := by decide +kernel
theorem d_Paper_paint_50 : decode b_Paper_paint 50 = .ok (.iload 7, 2) := by decide +kernel
theorem d_Paper_paint_52 : decode b_Paper_paint 52 = .ok (.istore 11, 2) := by decide +kernel
theorem d_Paper_paint_54 : decode b_Paper_paint 54 = .ok (.iload 11, 2) := by decide +kernel
theorem d_Paper_paint_56 : decode b_Paper_paint 56 = .ok (.iload 9, 2) := by decide +kernel
theorem d_Paper_paint_58 : decode b_Paper_paint 58 = .ok (.if_icmp .ge 74, 3) := by decide +kernel
theorem d_Paper_paint_61 : decode b_Paper_paint 61 = .ok (.iload 6, 2) := by decide +kernel
theorem d_Paper_paint_63 : decode b_Paper_paint 63 = .ok (.istore 12, 2) := by decide +kernel
theorem d_Paper_paint_65 : decode b_Paper_paint 65 = .ok (.iload 12, 2) := by decide +kernel
theorem d_Paper_paint_67 : decode b_Paper_paint 67 = .ok (.iload 8, 2) := by decide +kernel
theorem d_Paper_paint_69 : decode b_Paper_paint 69 = .ok (.if_icmp .ge 57, 3) := by decide +kernel
theorem d_Paper_paint_72 : decode b_Paper_paint 72 = .ok (.aload_n 0, 1) := by decide +kernel
theorem d_Paper_paint_73 : decode b_Paper_paint 73 = .ok (.iload 12, 2) := by decide +kernel
theorem d_Paper_paint_75 : decode b_Paper_paint 75 = .ok (.iload 11, 2) := by decide +kernel
theorem d_Paper_paint_77 : decode b_Paper_paint 77 = .ok (.invokevirtual 54, 3) := by decide +kernel
theorem d_Paper_paint_80 : decode b_Paper_paint 80 = .ok (.lstore 13, 2) := by decide +kernel
theorem d_Paper_paint_82 : decode b_Paper_paint 82 = .ok (.iload 10, 2) := by decide +kernel
theorem d_Paper_paint_84 : decode b_Paper_paint 84 = .ok (.aload_n 0, 1) := by decide +kernel
theorem d_Paper_paint_85 : decode b_Paper_paint 85 = .ok (.iload 12, 2) := by decide +kernel
theorem d_Paper_paint_87 : decode b_Paper_paint 87 = .ok (.iload 11, 2) := by decide +kernel
theorem d_Paper_paint_89 : decode b_Paper_paint 89 = .ok (.iload 5, 2) := by decide +kernel
theorem d_Paper_paint_91 : decode b_Paper_paint 91 = .ok (.ifCond .eq 12, 3) := by decide +kernel
theorem d_Paper_paint_94 : decode b_Paper_paint 94 = .ok (.lload 13, 2) := by decide +kernel
theorem d_Paper_paint_96 : decode b_Paper_paint 96 = .ok (.ldc2_w 58, 3) := by decide +kernel
theorem d_Paper_paint_99 : decode b_Paper_paint 99 = .ok (.lxor, 1) := by decide +kernel
theorem d_Paper_paint_100 : decode b_Paper_paint 100 = .ok (.goto 5, 3) := by decide +kernel
theorem d_Paper_paint_103 : decode b_Paper_paint 103 = .ok (.lload 13, 2) := by decide +kernel
theorem d_Paper_paint_105 : decode b_Paper_paint 105 = .ok (.iload 8, 2) := by decide +kernel
theorem d_Paper_paint_107 : decode b_Paper_paint 107 = .ok (.iload 12, 2) := by decide +kernel
theorem d_Paper_paint_109 : decode b_Paper_paint 109 = .ok (.isub, 1) := by decide +kernel
theorem d_Paper_paint_110 : decode b_Paper_paint 110 = .ok (.invokestatic 60, 3) := by decide +kernel
theorem d_Paper_paint_113 : decode b_Paper_paint 113 = .ok (.land, 1) := by decide +kernel
theorem d_Paper_paint_114 : decode b_Paper_paint 114 = .ok (.invokevirtual 64, 3) := by decide +kernel
theorem d_Paper_paint_117 : decode b_Paper_paint 117 = .ok (.iadd, 1) := by decide +kernel
theorem d_Paper_paint_118 : decode b_Paper_paint 118 = .ok (.istore 10, 2) := by decide +kernel
theorem d_Paper_paint_120 : decode b_Paper_paint 120 = .ok (.iinc 12 64, 3) := by decide +kernel
theorem d_Paper_paint_123 : decode b_Paper_paint 123 = .ok (.goto (-58), 3) := by decide +kernel
theorem d_Paper_paint_126 : decode b_Paper_paint 126 = .ok (.iinc 11 1, 3) := by decide +kernel
theorem d_Paper_paint_129 : decode b_Paper_paint 129 = .ok (.goto (-75), 3) := by decide +kernel
theorem d_Paper_paint_132 : decode b_Paper_paint 132 = .ok (.iload 10, 2) := by decide +kernel
theorem d_Paper_paint_134 : decode b_Paper_paint 134 = .ok (.ireturn, 1) := by decide +kernel
theorem d_Paper_countNow_0 : decode b_Paper_countNow 0 = .ok (.iconst 0, 1) := by decide +kernel
theorem d_Paper_countNow_1 : decode b_Paper_countNow 1 = .ok (.istore 5, 2) := by decide +kernel
theorem d_Paper_countNow_3 : decode b_Paper_countNow 3 = .ok (.iconst 0, 1) := by decide +kernel
theorem d_Paper_countNow_4 : decode b_Paper_countNow 4 = .ok (.istore 6, 2) := by decide +kernel
theorem d_Paper_countNow_6 : decode b_Paper_countNow 6 = .ok (.iload 6, 2) := by decide +kernel
theorem d_Paper_countNow_8 : decode b_Paper_countNow 8 = .ok (.iload 4, 2) := by decide +kernel
theorem d_Paper_countNow_10 : decode b_Paper_countNow 10 = .ok (.if_icmp .ge 31, 3) := by decide +kernel
theorem d_Paper_countNow_13 : decode b_Paper_countNow 13 = .ok (.iload 5, 2) := by decide +kernel
theorem d_Paper_countNow_15 : decode b_Paper_countNow 15 = .ok (.aload_n 0, 1) := by decide +kernel
theorem d_Paper_countNow_16 : decode b_Paper_countNow 16 = .ok (.iload_n 1, 1) := by decide +kernel
theorem d_Paper_countNow_17 : decode b_Paper_countNow 17 = .ok (.iload_n 2, 1) := by decide +kernel
theorem d_Paper_countNow_18 : decode b_Paper_countNow 18 = .ok (.iload 6, 2) := by decide +kernel
theorem d_Paper_countNow_20 : decode b_Paper_countNow 20 = .ok (.iadd, 1) := by decide +kernel
theorem d_Paper_countNow_21 : decode b_Paper_countNow 21 = .ok (.invokevirtual 54, 3) := by decide +kernel
theorem d_Paper_countNow_24 : decode b_Paper_countNow 24 = .ok (.iload_n 3, 1) := by decide +kernel
theorem d_Paper_countNow_25 : decode b_Paper_countNow 25 = .ok (.invokestatic 60, 3) := by decide +kernel
theorem d_Paper_countNow_28 : decode b_Paper_countNow 28 = .ok (.land, 1) := by decide +kernel
theorem d_Paper_countNow_29 : decode b_Paper_countNow 29 = .ok (.invokestatic 45, 3) := by decide +kernel
theorem d_Paper_countNow_32 : decode b_Paper_countNow 32 = .ok (.iadd, 1) := by decide +kernel
theorem d_Paper_countNow_33 : decode b_Paper_countNow 33 = .ok (.istore 5, 2) := by decide +kernel
theorem d_Paper_countNow_35 : decode b_Paper_countNow 35 = .ok (.iinc 6 1, 3) := by decide +kernel
theorem d_Paper_countNow_38 : decode b_Paper_countNow 38 = .ok (.goto (-32), 3) := by decide +kernel
theorem d_Paper_countNow_41 : decode b_Paper_countNow 41 = .ok (.iload 5, 2) := by decide +kernel
theorem d_Paper_countNow_43 : decode b_Paper_countNow 43 = .ok (.ireturn, 1) := by decide +kernel
theorem d_Paper_lowest_0 : decode b_Paper_lowest 0 = .ok (.iload_n 0, 1) := by decide +kernel
theorem d_Paper_lowest_1 : decode b_Paper_lowest 1 = .ok (.bipush 64, 2) := by decide +kernel
theorem d_Paper_lowest_3 : decode b_Paper_lowest 3 = .ok (.if_icmp .lt 9, 3) := by decide +kernel
theorem d_Paper_lowest_6 : decode b_Paper_lowest 6 = .ok (.ldc2_w 58, 3) := by decide +kernel
theorem d_Paper_lowest_9 : decode b_Paper_lowest 9 = .ok (.goto 8, 3) := by decide +kernel
theorem d_Paper_lowest_12 : decode b_Paper_lowest 12 = .ok (.lconst 1, 1) := by decide +kernel
theorem d_Paper_lowest_13 : decode b_Paper_lowest 13 = .ok (.iload_n 0, 1) := by decide +kernel
theorem d_Paper_lowest_14 : decode b_Paper_lowest 14 = .ok (.lshl, 1) := by decide +kernel
theorem d_Paper_lowest_15 : decode b_Paper_lowest 15 = .ok (.lconst 1, 1) := by decide +kernel
theorem d_Paper_lowest_16 : decode b_Paper_lowest 16 = .ok (.lsub, 1) := by decide +kernel
theorem d_Paper_lowest_17 : decode b_Paper_lowest 17 = .ok (.lreturn, 1) := by decide +kernel
theorem d_Paper_addUp_0 : decode b_Paper_addUp 0 = .ok (.aload_n 0, 1) := by decide +kernel
theorem d_Paper_addUp_1 : decode b_Paper_addUp 1 = .ok (.getfield 27, 3) := by decide +kernel
theorem d_Paper_addUp_4 : decode b_Paper_addUp 4 = .ok (.iconst 0, 1) := by decide +kernel
theorem d_Paper_addUp_5 : decode b_Paper_addUp 5 = .ok (.invokestatic 36, 3) := by decide +kernel
theorem d_Paper_addUp_8 : decode b_Paper_addUp 8 = .ok (.istore_n 1, 1) := by decide +kernel
theorem d_Paper_addUp_9 : decode b_Paper_addUp 9 = .ok (.iload_n 1, 1) := by decide +kernel
theorem d_Paper_addUp_10 : decode b_Paper_addUp 10 = .ok (.aload_n 0, 1) := by decide +kernel
theorem d_Paper_addUp_11 : decode b_Paper_addUp 11 = .ok (.getfield 15, 3) := by decide +kernel
theorem d_Paper_addUp_14 : decode b_Paper_addUp 14 = .ok (.if_icmp .ge 54, 3) := by decide +kernel
theorem d_Paper_addUp_17 : decode b_Paper_addUp 17 = .ok (.aload_n 0, 1) := by decide +kernel
theorem d_Paper_addUp_18 : decode b_Paper_addUp 18 = .ok (.iload_n 1, 1) := by decide +kernel
theorem d_Paper_addUp_19 : decode b_Paper_addUp 19 = .ok (.invokevirtual 68, 3) := by decide +kernel
theorem d_Paper_addUp_22 : decode b_Paper_addUp 22 = .ok (.ifCond .eq 35, 3) := by decide +kernel
theorem d_Paper_addUp_25 : decode b_Paper_addUp 25 = .ok (.aload_n 0, 1) := by decide +kernel
theorem d_Paper_addUp_26 : decode b_Paper_addUp 26 = .ok (.getfield 23, 3) := by decide +kernel
theorem d_Paper_addUp_29 : decode b_Paper_addUp 29 = .ok (.iload_n 1, 1) := by decide +kernel
theorem d_Paper_addUp_30 : decode b_Paper_addUp 30 = .ok (.sipush 513, 3) := by decide +kernel
theorem d_Paper_addUp_33 : decode b_Paper_addUp 33 = .ok (.imul, 1) := by decide +kernel
theorem d_Paper_addUp_34 : decode b_Paper_addUp 34 = .ok (.aload_n 0, 1) := by decide +kernel
theorem d_Paper_addUp_35 : decode b_Paper_addUp 35 = .ok (.getfield 23, 3) := by decide +kernel
theorem d_Paper_addUp_38 : decode b_Paper_addUp 38 = .ok (.iload_n 1, 1) := by decide +kernel
theorem d_Paper_addUp_39 : decode b_Paper_addUp 39 = .ok (.iconst 1, 1) := by decide +kernel
theorem d_Paper_addUp_40 : decode b_Paper_addUp 40 = .ok (.iadd, 1) := by decide +kernel
theorem d_Paper_addUp_41 : decode b_Paper_addUp 41 = .ok (.sipush 513, 3) := by decide +kernel
theorem d_Paper_addUp_44 : decode b_Paper_addUp 44 = .ok (.imul, 1) := by decide +kernel
theorem d_Paper_addUp_45 : decode b_Paper_addUp 45 = .ok (.aload_n 0, 1) := by decide +kernel
theorem d_Paper_addUp_46 : decode b_Paper_addUp 46 = .ok (.getfield 9, 3) := by decide +kernel
theorem d_Paper_addUp_49 : decode b_Paper_addUp 49 = .ok (.iconst 1, 1) := by decide +kernel
theorem d_Paper_addUp_50 : decode b_Paper_addUp 50 = .ok (.iadd, 1) := by decide +kernel
theorem d_Paper_addUp_51 : decode b_Paper_addUp 51 = .ok (.invokestatic 72, 3) := by decide +kernel
theorem d_Paper_addUp_54 : decode b_Paper_addUp 54 = .ok (.goto 8, 3) := by decide +kernel
theorem d_Paper_addUp_57 : decode b_Paper_addUp 57 = .ok (.aload_n 0, 1) := by decide +kernel
theorem d_Paper_addUp_58 : decode b_Paper_addUp 58 = .ok (.iload_n 1, 1) := by decide +kernel
theorem d_Paper_addUp_59 : decode b_Paper_addUp 59 = .ok (.invokevirtual 78, 3) := by decide +kernel
theorem d_Paper_addUp_62 : decode b_Paper_addUp 62 = .ok (.iinc 1 1, 3) := by decide +kernel
theorem d_Paper_addUp_65 : decode b_Paper_addUp 65 = .ok (.goto (-56), 3) := by decide +kernel
theorem d_Paper_addUp_68 : decode b_Paper_addUp 68 = .ok (.aload_n 0, 1) := by decide +kernel
theorem d_Paper_addUp_69 : decode b_Paper_addUp 69 = .ok (.aload_n 0, 1) := by decide +kernel
theorem d_Paper_addUp_70 : decode b_Paper_addUp 70 = .ok (.getfield 15, 3) := by decide +kernel
theorem d_Paper_addUp_73 : decode b_Paper_addUp 73 = .ok (.putfield 27, 3) := by decide +kernel
theorem d_Paper_addUp_76 : decode b_Paper_addUp 76 = .ok (.return_, 1) := by decide +kernel
theorem d_Paper_isLight_0 : decode b_Paper_isLight 0 = .ok (.lconst 0, 1) := by decide +kernel
theorem d_Paper_isLight_1 : decode b_Paper_isLight 1 = .ok (.lstore_n 2, 1) := by decide +kernel
theorem d_Paper_isLight_2 : decode b_Paper_isLight 2 = .ok (.iconst 0, 1) := by decide +kernel
theorem d_Paper_isLight_3 : decode b_Paper_isLight 3 = .ok (.istore 4, 2) := by decide +kernel
theorem d_Paper_isLight_5 : decode b_Paper_isLight 5 = .ok (.iload 4, 2) := by decide +kernel
theorem d_Paper_isLight_7 : decode b_Paper_isLight 7 = .ok (.bipush 8, 2) := by decide +kernel
theorem d_Paper_isLight_9 : decode b_Paper_isLight 9 = .ok (.if_icmp .ge 24, 3) := by decide +kernel
theorem d_Paper_isLight_12 : decode b_Paper_isLight 12 = .ok (.lload_n 2, 1) := by decide +kernel
theorem d_Paper_isLight_13 : decode b_Paper_isLight 13 = .ok (.aload_n 0, 1) := by decide +kernel
theorem d_Paper_isLight_14 : decode b_Paper_isLight 14 = .ok (.getfield 18, 3) := by decide +kernel
theorem d_Paper_isLight_17 : decode b_Paper_isLight 17 = .ok (.iload_n 1, 1) := by decide +kernel
theorem d_Paper_isLight_18 : decode b_Paper_isLight 18 = .ok (.bipush 8, 2) := by decide +kernel
theorem d_Paper_isLight_20 : decode b_Paper_isLight 20 = .ok (.imul, 1) := by decide +kernel
theorem d_Paper_isLight_21 : decode b_Paper_isLight 21 = .ok (.iload 4, 2) := by decide +kernel
theorem d_Paper_isLight_23 : decode b_Paper_isLight 23 = .ok (.iadd, 1) := by decide +kernel
theorem d_Paper_isLight_24 : decode b_Paper_isLight 24 = .ok (.laload, 1) := by decide +kernel
theorem d_Paper_isLight_25 : decode b_Paper_isLight 25 = .ok (.lor, 1) := by decide +kernel
theorem d_Paper_isLight_26 : decode b_Paper_isLight 26 = .ok (.lstore_n 2, 1) := by decide +kernel
theorem d_Paper_isLight_27 : decode b_Paper_isLight 27 = .ok (.iinc 4 1, 3) := by decide +kernel
theorem d_Paper_isLight_30 : decode b_Paper_isLight 30 = .ok (.goto (-25), 3) := by decide +kernel
theorem d_Paper_isLight_33 : decode b_Paper_isLight 33 = .ok (.lload_n 2, 1) := by decide +kernel
theorem d_Paper_isLight_34 : decode b_Paper_isLight 34 = .ok (.lconst 0, 1) := by decide +kernel
theorem d_Paper_isLight_35 : decode b_Paper_isLight 35 = .ok (.lcmp, 1) := by decide +kernel
theorem d_Paper_isLight_36 : decode b_Paper_isLight 36 = .ok (.ifCond .ne 7, 3) := by decide +kernel
theorem d_Paper_isLight_39 : decode b_Paper_isLight 39 = .ok (.iconst 1, 1) := by decide +kernel
theorem d_Paper_isLight_40 : decode b_Paper_isLight 40 = .ok (.goto 4, 3) := by decide +kernel
theorem d_Paper_isLight_43 : decode b_Paper_isLight 43 = .ok (.iconst 0, 1) := by decide +kernel
theorem d_Paper_isLight_44 : decode b_Paper_isLight 44 = .ok (.ireturn, 1) := by decide +kernel
theorem d_Paper_addUpRow_0 : decode b_Paper_addUpRow 0 = .ok (.iload_n 1, 1) := by decide +kernel
theorem d_Paper_addUpRow_1 : decode b_Paper_addUpRow 1 = .ok (.sipush 513, 3) := by decide +kernel
theorem d_Paper_addUpRow_4 : decode b_Paper_addUpRow 4 = .ok (.imul, 1) := by decide +kernel
theorem d_Paper_addUpRow_5 : decode b_Paper_addUpRow 5 = .ok (.iconst 1, 1) := by decide +kernel
theorem d_Paper_addUpRow_6 : decode b_Paper_addUpRow 6 = .ok (.iadd, 1) := by decide +kernel
theorem d_Paper_addUpRow_7 : decode b_Paper_addUpRow 7 = .ok (.istore_n 2, 1) := by decide +kernel
theorem d_Paper_addUpRow_8 : decode b_Paper_addUpRow 8 = .ok (.iload_n 2, 1) := by decide +kernel
theorem d_Paper_addUpRow_9 : decode b_Paper_addUpRow 9 = .ok (.sipush 513, 3) := by decide +kernel
theorem d_Paper_addUpRow_12 : decode b_Paper_addUpRow 12 = .ok (.iadd, 1) := by decide +kernel
theorem d_Paper_addUpRow_13 : decode b_Paper_addUpRow 13 = .ok (.istore_n 3, 1) := by decide +kernel
theorem d_Paper_addUpRow_14 : decode b_Paper_addUpRow 14 = .ok (.iconst 0, 1) := by decide +kernel
theorem d_Paper_addUpRow_15 : decode b_Paper_addUpRow 15 = .ok (.istore 4, 2) := by decide +kernel
theorem d_Paper_addUpRow_17 : decode b_Paper_addUpRow 17 = .ok (.iconst 0, 1) := by decide +kernel
theorem d_Paper_addUpRow_18 : decode b_Paper_addUpRow 18 = .ok (.istore 5, 2) := by decide +kernel
theorem d_Paper_addUpRow_20 : decode b_Paper_addUpRow 20 = .ok (.iload 5, 2) := by decide +kernel
theorem d_Paper_addUpRow_22 : decode b_Paper_addUpRow 22 = .ok (.aload_n 0, 1) := by decide +kernel
theorem d_Paper_addUpRow_23 : decode b_Paper_addUpRow 23 = .ok (.getfield 9, 3) := by decide +kernel
theorem d_Paper_addUpRow_26 : decode b_Paper_addUpRow 26 = .ok (.if_icmp .ge 59, 3) := by decide +kernel
end
section
theorem d_Paper_addUpRow_29 : decode b_Paper_addUpRow 29 = .ok (.iload 4, 2) := by decide +kernel
theorem d_Paper_addUpRow_31 : decode b_Paper_addUpRow 31 = .ok (.aload_n 0, 1) := by decide +kernel
theorem d_Paper_addUpRow_32 : decode b_Paper_addUpRow 32 = .ok (.getfield 18, 3) := by decide +kernel
theorem d_Paper_addUpRow_35 : decode b_Paper_addUpRow 35 = .ok (.iload_n 1, 1) := by decide +kernel
theorem d_Paper_addUpRow_36 : decode b_Paper_addUpRow 36 = .ok (.bipush 8, 2) := by decide +kernel
theorem d_Paper_addUpRow_38 : decode b_Paper_addUpRow 38 = .ok (.imul, 1) := by decide +kernel
theorem d_Paper_addUpRow_39 : decode b_Paper_addUpRow 39 = .ok (.iload 5, 2) := by decide +kernel
theorem d_Paper_addUpRow_41 : decode b_Paper_addUpRow 41 = .ok (.bipush 6, 2) := by decide +kernel
theorem d_Paper_addUpRow_43 : decode b_Paper_addUpRow 43 = .ok (.ishr, 1) := by decide +kernel
theorem d_Paper_addUpRow_44 : decode b_Paper_addUpRow 44 = .ok (.iadd, 1) := by decide +kernel
theorem d_Paper_addUpRow_45 : decode b_Paper_addUpRow 45 = .ok (.laload, 1) := by decide +kernel
theorem d_Paper_addUpRow_46 : decode b_Paper_addUpRow 46 = .ok (.iload 5, 2) := by decide +kernel
theorem d_Paper_addUpRow_48 : decode b_Paper_addUpRow 48 = .ok (.bipush 63, 2) := by decide +kernel
theorem d_Paper_addUpRow_50 : decode b_Paper_addUpRow 50 = .ok (.iand, 1) := by decide +kernel
theorem d_Paper_addUpRow_51 : decode b_Paper_addUpRow 51 = .ok (.lushr, 1) := by decide +kernel
theorem d_Paper_addUpRow_52 : decode b_Paper_addUpRow 52 = .ok (.l2i, 1) := by decide +kernel
theorem d_Paper_addUpRow_53 : decode b_Paper_addUpRow 53 = .ok (.iconst 1, 1) := by decide +kernel
theorem d_Paper_addUpRow_54 : decode b_Paper_addUpRow 54 = .ok (.iand, 1) := by decide +kernel
theorem d_Paper_addUpRow_55 : decode b_Paper_addUpRow 55 = .ok (.iadd, 1) := by decide +kernel
theorem d_Paper_addUpRow_56 : decode b_Paper_addUpRow 56 = .ok (.istore 4, 2) := by decide +kernel
theorem d_Paper_addUpRow_58 : decode b_Paper_addUpRow 58 = .ok (.aload_n 0, 1) := by decide +kernel
theorem d_Paper_addUpRow_59 : decode b_Paper_addUpRow 59 = .ok (.getfield 23, 3) := by decide +kernel
theorem d_Paper_addUpRow_62 : decode b_Paper_addUpRow 62 = .ok (.iload_n 3, 1) := by decide +kernel
theorem d_Paper_addUpRow_63 : decode b_Paper_addUpRow 63 = .ok (.iload 5, 2) := by decide +kernel
theorem d_Paper_addUpRow_65 : decode b_Paper_addUpRow 65 = .ok (.iadd, 1) := by decide +kernel
theorem d_Paper_addUpRow_66 : decode b_Paper_addUpRow 66 = .ok (.aload_n 0, 1) := by decide +kernel
theorem d_Paper_addUpRow_67 : decode b_Paper_addUpRow 67 = .ok (.getfield 23, 3) := by decide +kernel
theorem d_Paper_addUpRow_70 : decode b_Paper_addUpRow 70 = .ok (.iload_n 2, 1) := by decide +kernel
theorem d_Paper_addUpRow_71 : decode b_Paper_addUpRow 71 = .ok (.iload 5, 2) := by decide +kernel
theorem d_Paper_addUpRow_73 : decode b_Paper_addUpRow 73 = .ok (.iadd, 1) := by decide +kernel
theorem d_Paper_addUpRow_74 : decode b_Paper_addUpRow 74 = .ok (.iaload, 1) := by decide +kernel
theorem d_Paper_addUpRow_75 : decode b_Paper_addUpRow 75 = .ok (.iload 4, 2) := by decide +kernel
theorem d_Paper_addUpRow_77 : decode b_Paper_addUpRow 77 = .ok (.iadd, 1) := by decide +kernel
theorem d_Paper_addUpRow_78 : decode b_Paper_addUpRow 78 = .ok (.iastore, 1) := by decide +kernel
theorem d_Paper_addUpRow_79 : decode b_Paper_addUpRow 79 = .ok (.iinc 5 1, 3) := by decide +kernel
theorem d_Paper_addUpRow_82 : decode b_Paper_addUpRow 82 = .ok (.goto (-62), 3) := by decide +kernel
theorem d_Paper_addUpRow_85 : decode b_Paper_addUpRow 85 = .ok (.return_, 1) := by decide +kernel
theorem d_Paper_countSummed_0 : decode b_Paper_countSummed 0 = .ok (.iload_n 3, 1) := by decide +kernel
theorem d_Paper_countSummed_1 : decode b_Paper_countSummed 1 = .ok (.ifCond .le 37, 3) := by decide +kernel
theorem d_Paper_countSummed_4 : decode b_Paper_countSummed 4 = .ok (.iload 4, 2) := by decide +kernel
theorem d_Paper_countSummed_6 : decode b_Paper_countSummed 6 = .ok (.ifCond .le 32, 3) := by decide +kernel
theorem d_Paper_countSummed_9 : decode b_Paper_countSummed 9 = .ok (.iload_n 1, 1) := by decide +kernel
theorem d_Paper_countSummed_10 : decode b_Paper_countSummed 10 = .ok (.ifCond .lt 28, 3) := by decide +kernel
theorem d_Paper_countSummed_13 : decode b_Paper_countSummed 13 = .ok (.iload_n 2, 1) := by decide +kernel
theorem d_Paper_countSummed_14 : decode b_Paper_countSummed 14 = .ok (.ifCond .lt 24, 3) := by decide +kernel
theorem d_Paper_countSummed_17 : decode b_Paper_countSummed 17 = .ok (.iload_n 1, 1) := by decide +kernel
theorem d_Paper_countSummed_18 : decode b_Paper_countSummed 18 = .ok (.aload_n 0, 1) := by decide +kernel
theorem d_Paper_countSummed_19 : decode b_Paper_countSummed 19 = .ok (.getfield 9, 3) := by decide +kernel
theorem d_Paper_countSummed_22 : decode b_Paper_countSummed 22 = .ok (.iload_n 3, 1) := by decide +kernel
theorem d_Paper_countSummed_23 : decode b_Paper_countSummed 23 = .ok (.isub, 1) := by decide +kernel
theorem d_Paper_countSummed_24 : decode b_Paper_countSummed 24 = .ok (.if_icmp .gt 14, 3) := by decide +kernel
theorem d_Paper_countSummed_27 : decode b_Paper_countSummed 27 = .ok (.iload_n 2, 1) := by decide +kernel
theorem d_Paper_countSummed_28 : decode b_Paper_countSummed 28 = .ok (.aload_n 0, 1) := by decide +kernel
theorem d_Paper_countSummed_29 : decode b_Paper_countSummed 29 = .ok (.getfield 15, 3) := by decide +kernel
theorem d_Paper_countSummed_32 : decode b_Paper_countSummed 32 = .ok (.iload 4, 2) := by decide +kernel
theorem d_Paper_countSummed_34 : decode b_Paper_countSummed 34 = .ok (.isub, 1) := by decide +kernel
theorem d_Paper_countSummed_35 : decode b_Paper_countSummed 35 = .ok (.if_icmp .le 5, 3) := by decide +kernel
theorem d_Paper_countSummed_38 : decode b_Paper_countSummed 38 = .ok (.iconst 0, 1) := by decide +kernel
theorem d_Paper_countSummed_39 : decode b_Paper_countSummed 39 = .ok (.ireturn, 1) := by decide +kernel
theorem d_Paper_countSummed_40 : decode b_Paper_countSummed 40 = .ok (.iload_n 2, 1) := by decide +kernel
theorem d_Paper_countSummed_41 : decode b_Paper_countSummed 41 = .ok (.sipush 513, 3) := by decide +kernel
theorem d_Paper_countSummed_44 : decode b_Paper_countSummed 44 = .ok (.imul, 1) := by decide +kernel
theorem d_Paper_countSummed_45 : decode b_Paper_countSummed 45 = .ok (.iload_n 1, 1) := by decide +kernel
theorem d_Paper_countSummed_46 : decode b_Paper_countSummed 46 = .ok (.iadd, 1) := by decide +kernel
theorem d_Paper_countSummed_47 : decode b_Paper_countSummed 47 = .ok (.istore 5, 2) := by decide +kernel
theorem d_Paper_countSummed_49 : decode b_Paper_countSummed 49 = .ok (.iload 5, 2) := by decide +kernel
theorem d_Paper_countSummed_51 : decode b_Paper_countSummed 51 = .ok (.iload 4, 2) := by decide +kernel
theorem d_Paper_countSummed_53 : decode b_Paper_countSummed 53 = .ok (.sipush 513, 3) := by decide +kernel
theorem d_Paper_countSummed_56 : decode b_Paper_countSummed 56 = .ok (.imul, 1) := by decide +kernel
theorem d_Paper_countSummed_57 : decode b_Paper_countSummed 57 = .ok (.iadd, 1) := by decide +kernel
theorem d_Paper_countSummed_58 : decode b_Paper_countSummed 58 = .ok (.istore 6, 2) := by decide +kernel
theorem d_Paper_countSummed_60 : decode b_Paper_countSummed 60 = .ok (.aload_n 0, 1) := by decide +kernel
theorem d_Paper_countSummed_61 : decode b_Paper_countSummed 61 = .ok (.getfield 23, 3) := by decide +kernel
theorem d_Paper_countSummed_64 : decode b_Paper_countSummed 64 = .ok (.iload 6, 2) := by decide +kernel
theorem d_Paper_countSummed_66 : decode b_Paper_countSummed 66 = .ok (.iload_n 3, 1) := by decide +kernel
theorem d_Paper_countSummed_67 : decode b_Paper_countSummed 67 = .ok (.iadd, 1) := by decide +kernel
theorem d_Paper_countSummed_68 : decode b_Paper_countSummed 68 = .ok (.iaload, 1) := by decide +kernel
theorem d_Paper_countSummed_69 : decode b_Paper_countSummed 69 = .ok (.aload_n 0, 1) := by decide +kernel
theorem d_Paper_countSummed_70 : decode b_Paper_countSummed 70 = .ok (.getfield 23, 3) := by decide +kernel
theorem d_Paper_countSummed_73 : decode b_Paper_countSummed 73 = .ok (.iload 6, 2) := by decide +kernel
theorem d_Paper_countSummed_75 : decode b_Paper_countSummed 75 = .ok (.iaload, 1) := by decide +kernel
theorem d_Paper_countSummed_76 : decode b_Paper_countSummed 76 = .ok (.isub, 1) := by decide +kernel
theorem d_Paper_countSummed_77 : decode b_Paper_countSummed 77 = .ok (.aload_n 0, 1) := by decide +kernel
theorem d_Paper_countSummed_78 : decode b_Paper_countSummed 78 = .ok (.getfield 23, 3) := by decide +kernel
theorem d_Paper_countSummed_81 : decode b_Paper_countSummed 81 = .ok (.iload 5, 2) := by decide +kernel
theorem d_Paper_countSummed_83 : decode b_Paper_countSummed 83 = .ok (.iload_n 3, 1) := by decide +kernel
theorem d_Paper_countSummed_84 : decode b_Paper_countSummed 84 = .ok (.iadd, 1) := by decide +kernel
theorem d_Paper_countSummed_85 : decode b_Paper_countSummed 85 = .ok (.iaload, 1) := by decide +kernel
theorem d_Paper_countSummed_86 : decode b_Paper_countSummed 86 = .ok (.isub, 1) := by decide +kernel
theorem d_Paper_countSummed_87 : decode b_Paper_countSummed 87 = .ok (.aload_n 0, 1) := by decide +kernel
theorem d_Paper_countSummed_88 : decode b_Paper_countSummed 88 = .ok (.getfield 23, 3) := by decide +kernel
theorem d_Paper_countSummed_91 : decode b_Paper_countSummed 91 = .ok (.iload 5, 2) := by decide +kernel
theorem d_Paper_countSummed_93 : decode b_Paper_countSummed 93 = .ok (.iaload, 1) := by decide +kernel
theorem d_Paper_countSummed_94 : decode b_Paper_countSummed 94 = .ok (.iadd, 1) := by decide +kernel
theorem d_Paper_countSummed_95 : decode b_Paper_countSummed 95 = .ok (.ireturn, 1) := by decide +kernel
end
section
theorem d_Place_init_0 : decode b_Place_init 0 = .ok (.aload_n 0, 1) := by decide +kernel
theorem d_Place_init_1 : decode b_Place_init 1 = .ok (.invokespecial 3, 3) := by decide +kernel
theorem d_Place_init_4 : decode b_Place_init 4 = .ok (.aload_n 0, 1) := by decide +kernel
theorem d_Place_init_5 : decode b_Place_init 5 = .ok (.iload_n 1, 1) := by decide +kernel
theorem d_Place_init_6 : decode b_Place_init 6 = .ok (.invokestatic 9, 3) := by decide +kernel
theorem d_Place_init_9 : decode b_Place_init 9 = .ok (.putfield 15, 3) := by decide +kernel
theorem d_Place_init_12 : decode b_Place_init 12 = .ok (.aload_n 0, 1) := by decide +kernel
theorem d_Place_init_13 : decode b_Place_init 13 = .ok (.iload_n 1, 1) := by decide +kernel
theorem d_Place_init_14 : decode b_Place_init 14 = .ok (.invokestatic 19, 3) := by decide +kernel
theorem d_Place_init_17 : decode b_Place_init 17 = .ok (.putfield 22, 3) := by decide +kernel
theorem d_Place_init_20 : decode b_Place_init 20 = .ok (.aload_n 0, 1) := by decide +kernel
theorem d_Place_init_21 : decode b_Place_init 21 = .ok (.iload_n 1, 1) := by decide +kernel
theorem d_Place_init_22 : decode b_Place_init 22 = .ok (.invokestatic 25, 3) := by decide +kernel
theorem d_Place_init_25 : decode b_Place_init 25 = .ok (.putfield 28, 3) := by decide +kernel
theorem d_Place_init_28 : decode b_Place_init 28 = .ok (.aload_n 0, 1) := by decide +kernel
theorem d_Place_init_29 : decode b_Place_init 29 = .ok (.iload_n 1, 1) := by decide +kernel
theorem d_Place_init_30 : decode b_Place_init 30 = .ok (.invokestatic 31, 3) := by decide +kernel
theorem d_Place_init_33 : decode b_Place_init 33 = .ok (.invokestatic 34, 3) := by decide +kernel
theorem d_Place_init_36 : decode b_Place_init 36 = .ok (.putfield 37, 3) := by decide +kernel
theorem d_Place_init_39 : decode b_Place_init 39 = .ok (.aload_n 0, 1) := by decide +kernel
theorem d_Place_init_40 : decode b_Place_init 40 = .ok (.iload_n 1, 1) := by decide +kernel
theorem d_Place_init_41 : decode b_Place_init 41 = .ok (.invokestatic 40, 3) := by decide +kernel
theorem d_Place_init_44 : decode b_Place_init 44 = .ok (.putfield 43, 3) := by decide +kernel
theorem d_Place_init_47 : decode b_Place_init 47 = .ok (.return_, 1) := by decide +kernel
theorem d_Place_keyOf_0 : decode b_Place_keyOf 0 = .ok (.iload_n 1, 1) := by decide +kernel
theorem d_Place_keyOf_1 : decode b_Place_keyOf 1 = .ok (.bipush 22, 2) := by decide +kernel
theorem d_Place_keyOf_3 : decode b_Place_keyOf 3 = .ok (.ishl, 1) := by decide +kernel
theorem d_Place_keyOf_4 : decode b_Place_keyOf 4 = .ok (.iload_n 0, 1) := by decide +kernel
theorem d_Place_keyOf_5 : decode b_Place_keyOf 5 = .ok (.bipush 13, 2) := by decide +kernel
theorem d_Place_keyOf_7 : decode b_Place_keyOf 7 = .ok (.ishl, 1) := by decide +kernel
theorem d_Place_keyOf_8 : decode b_Place_keyOf 8 = .ok (.ior, 1) := by decide +kernel
theorem d_Place_keyOf_9 : decode b_Place_keyOf 9 = .ok (.iload_n 2, 1) := by decide +kernel
theorem d_Place_keyOf_10 : decode b_Place_keyOf 10 = .ok (.ior, 1) := by decide +kernel
theorem d_Place_keyOf_11 : decode b_Place_keyOf 11 = .ok (.ireturn, 1) := by decide +kernel
theorem d_Place_leftOf_0 : decode b_Place_leftOf 0 = .ok (.iload_n 0, 1) := by decide +kernel
theorem d_Place_leftOf_1 : decode b_Place_leftOf 1 = .ok (.bipush 13, 2) := by decide +kernel
theorem d_Place_leftOf_3 : decode b_Place_leftOf 3 = .ok (.ishr, 1) := by decide +kernel
theorem d_Place_leftOf_4 : decode b_Place_leftOf 4 = .ok (.sipush 511, 3) := by decide +kernel
theorem d_Place_leftOf_7 : decode b_Place_leftOf 7 = .ok (.iand, 1) := by decide +kernel
theorem d_Place_leftOf_8 : decode b_Place_leftOf 8 = .ok (.ireturn, 1) := by decide +kernel
theorem d_Place_topOf_0 : decode b_Place_topOf 0 = .ok (.iload_n 0, 1) := by decide +kernel
theorem d_Place_topOf_1 : decode b_Place_topOf 1 = .ok (.bipush 22, 2) := by decide +kernel
theorem d_Place_topOf_3 : decode b_Place_topOf 3 = .ok (.ishr, 1) := by decide +kernel
theorem d_Place_topOf_4 : decode b_Place_topOf 4 = .ok (.sipush 511, 3) := by decide +kernel
theorem d_Place_topOf_7 : decode b_Place_topOf 7 = .ok (.iand, 1) := by decide +kernel
theorem d_Place_topOf_8 : decode b_Place_topOf 8 = .ok (.ireturn, 1) := by decide +kernel
theorem d_Place_moduleOf_0 : decode b_Place_moduleOf 0 = .ok (.iload_n 0, 1) := by decide +kernel
theorem d_Place_moduleOf_1 : decode b_Place_moduleOf 1 = .ok (.bipush 8, 2) := by decide +kernel
theorem d_Place_moduleOf_3 : decode b_Place_moduleOf 3 = .ok (.ishr, 1) := by decide +kernel
theorem d_Place_moduleOf_4 : decode b_Place_moduleOf 4 = .ok (.bipush 31, 2) := by decide +kernel
theorem d_Place_moduleOf_6 : decode b_Place_moduleOf 6 = .ok (.iand, 1) := by decide +kernel
theorem d_Place_moduleOf_7 : decode b_Place_moduleOf 7 = .ok (.ireturn, 1) := by decide +kernel
theorem d_Place_versionOf_0 : decode b_Place_versionOf 0 = .ok (.iload_n 0, 1) := by decide +kernel
theorem d_Place_versionOf_1 : decode b_Place_versionOf 1 = .ok (.iconst 2, 1) := by decide +kernel
theorem d_Place_versionOf_2 : decode b_Place_versionOf 2 = .ok (.ishr, 1) := by decide +kernel
theorem d_Place_versionOf_3 : decode b_Place_versionOf 3 = .ok (.bipush 63, 2) := by decide +kernel
theorem d_Place_versionOf_5 : decode b_Place_versionOf 5 = .ok (.iand, 1) := by decide +kernel
theorem d_Place_versionOf_6 : decode b_Place_versionOf 6 = .ok (.ireturn, 1) := by decide +kernel
theorem d_Place_quarterOf_0 : decode b_Place_quarterOf 0 = .ok (.iload_n 0, 1) := by decide +kernel
theorem d_Place_quarterOf_1 : decode b_Place_quarterOf 1 = .ok (.iconst 3, 1) := by decide +kernel
theorem d_Place_quarterOf_2 : decode b_Place_quarterOf 2 = .ok (.iand, 1) := by decide +kernel
theorem d_Place_quarterOf_3 : decode b_Place_quarterOf 3 = .ok (.ireturn, 1) := by decide +kernel
theorem d_Place_sizeOf_0 : decode b_Place_sizeOf 0 = .ok (.bipush 17, 2) := by decide +kernel
theorem d_Place_sizeOf_2 : decode b_Place_sizeOf 2 = .ok (.iconst 4, 1) := by decide +kernel
theorem d_Place_sizeOf_3 : decode b_Place_sizeOf 3 = .ok (.iload_n 0, 1) := by decide +kernel
theorem d_Place_sizeOf_4 : decode b_Place_sizeOf 4 = .ok (.imul, 1) := by decide +kernel
theorem d_Place_sizeOf_5 : decode b_Place_sizeOf 5 = .ok (.iadd, 1) := by decide +kernel
theorem d_Place_sizeOf_6 : decode b_Place_sizeOf 6 = .ok (.ireturn, 1) := by decide +kernel
theorem d_Place_haveCommonDot_0 : decode b_Place_haveCommonDot 0 = .ok (.iload_n 0, 1) := by decide +kernel
theorem d_Place_haveCommonDot_1 : decode b_Place_haveCommonDot 1 = .ok (.invokestatic 25, 3) := by decide +kernel
theorem d_Place_haveCommonDot_4 : decode b_Place_haveCommonDot 4 = .ok (.iload_n 0, 1) := by decide +kernel
theorem d_Place_haveCommonDot_5 : decode b_Place_haveCommonDot 5 = .ok (.invokestatic 31, 3) := by decide +kernel
theorem d_Place_haveCommonDot_8 : decode b_Place_haveCommonDot 8 = .ok (.invokestatic 34, 3) := by decide +kernel
theorem d_Place_haveCommonDot_11 : decode b_Place_haveCommonDot 11 = .ok (.imul, 1) := by decide +kernel
theorem d_Place_haveCommonDot_12 : decode b_Place_haveCommonDot 12 = .ok (.istore_n 2, 1) := by decide +kernel
theorem d_Place_haveCommonDot_13 : decode b_Place_haveCommonDot 13 = .ok (.iload_n 1, 1) := by decide +kernel
theorem d_Place_haveCommonDot_14 : decode b_Place_haveCommonDot 14 = .ok (.invokestatic 25, 3) := by decide +kernel
theorem d_Place_haveCommonDot_17 : decode b_Place_haveCommonDot 17 = .ok (.iload_n 1, 1) := by decide +kernel
theorem d_Place_haveCommonDot_18 : decode b_Place_haveCommonDot 18 = .ok (.invokestatic 31, 3) := by decide +kernel
theorem d_Place_haveCommonDot_21 : decode b_Place_haveCommonDot 21 = .ok (.invokestatic 34, 3) := by decide +kernel
theorem d_Place_haveCommonDot_24 : decode b_Place_haveCommonDot 24 = .ok (.imul, 1) := by decide +kernel
theorem d_Place_haveCommonDot_25 : decode b_Place_haveCommonDot 25 = .ok (.istore_n 3, 1) := by decide +kernel
theorem d_Place_haveCommonDot_26 : decode b_Place_haveCommonDot 26 = .ok (.iload_n 0, 1) := by decide +kernel
theorem d_Place_haveCommonDot_27 : decode b_Place_haveCommonDot 27 = .ok (.invokestatic 9, 3) := by decide +kernel
theorem d_Place_haveCommonDot_30 : decode b_Place_haveCommonDot 30 = .ok (.iload_n 1, 1) := by decide +kernel
theorem d_Place_haveCommonDot_31 : decode b_Place_haveCommonDot 31 = .ok (.invokestatic 9, 3) := by decide +kernel
theorem d_Place_haveCommonDot_34 : decode b_Place_haveCommonDot 34 = .ok (.iload_n 3, 1) := by decide +kernel
theorem d_Place_haveCommonDot_35 : decode b_Place_haveCommonDot 35 = .ok (.iadd, 1) := by decide +kernel
theorem d_Place_haveCommonDot_36 : decode b_Place_haveCommonDot 36 = .ok (.if_icmp .ge 46, 3) := by decide +kernel
theorem d_Place_haveCommonDot_39 : decode b_Place_haveCommonDot 39 = .ok (.iload_n 1, 1) := by decide +kernel
theorem d_Place_haveCommonDot_40 : decode b_Place_haveCommonDot 40 = .ok (.invokestatic 9, 3) := by decide +kernel
theorem d_Place_haveCommonDot_43 : decode b_Place_haveCommonDot 43 = .ok (.iload_n 0, 1) := by decide +kernel
theorem d_Place_haveCommonDot_44 : decode b_Place_haveCommonDot 44 = .ok (.invokestatic 9, 3) := by decide +kernel
theorem d_Place_haveCommonDot_47 : decode b_Place_haveCommonDot 47 = .ok (.iload_n 2, 1) := by decide +kernel
theorem d_Place_haveCommonDot_48 : decode b_Place_haveCommonDot 48 = .ok (.iadd, 1) := by decide +kernel
theorem d_Place_haveCommonDot_49 : decode b_Place_haveCommonDot 49 = .ok (.if_icmp .ge 33, 3) := by decide +kernel
theorem d_Place_haveCommonDot_52 : decode b_Place_haveCommonDot 52 = .ok (.iload_n 0, 1) := by decide +kernel
theorem d_Place_haveCommonDot_53 : decode b_Place_haveCommonDot 53 = .ok (.invokestatic 19, 3) := by decide +kernel
theorem d_Place_haveCommonDot_56 : decode b_Place_haveCommonDot 56 = .ok (.iload_n 1, 1) := by decide +kernel
theorem d_Place_haveCommonDot_57 : decode b_Place_haveCommonDot 57 = .ok (.invokestatic 19, 3) := by decide +kernel
theorem d_Place_haveCommonDot_60 : decode b_Place_haveCommonDot 60 = .ok (.iload_n 3, 1) := by decide +kernel
theorem d_Place_haveCommonDot_61 : decode b_Place_haveCommonDot 61 = .ok (.iadd, 1) := by decide +kernel
theorem d_Place_haveCommonDot_62 : decode b_Place_haveCommonDot 62 = .ok (.if_icmp .ge 20, 3) := by decide +kernel
theorem d_Place_haveCommonDot_65 : decode b_Place_haveCommonDot 65 = .ok (.iload_n 1, 1) := by decide +kernel
theorem d_Place_haveCommonDot_66 : decode b_Place_haveCommonDot 66 = .ok (.invokestatic 19, 3) := by decide +kernel
theorem d_Place_haveCommonDot_69 : decode b_Place_haveCommonDot 69 = .ok (.iload_n 0, 1) := by decide +kernel
theorem d_Place_haveCommonDot_70 : decode b_Place_haveCommonDot 70 = .ok (.invokestatic 19, 3) := by decide +kernel
theorem d_Place_haveCommonDot_73 : decode b_Place_haveCommonDot 73 = .ok (.iload_n 2, 1) := by decide +kernel
theorem d_Place_haveCommonDot_74 : decode b_Place_haveCommonDot 74 = .ok (.iadd, 1) := by decide +kernel
theorem d_Place_haveCommonDot_75 : decode b_Place_haveCommonDot 75 = .ok (.if_icmp .ge 7, 3) := by decide +kernel
theorem d_Place_haveCommonDot_78 : decode b_Place_haveCommonDot 78 = .ok (.iconst 1, 1) := by decide +kernel
theorem d_Place_haveCommonDot_79 : decode b_Place_haveCommonDot 79 = .ok (.goto 4, 3) := by decide +kernel
theorem d_Place_haveCommonDot_82 : decode b_Place_haveCommonDot 82 = .ok (.iconst 0, 1) := by decide +kernel
theorem d_Place_haveCommonDot_83 : decode b_Place_haveCommonDot 83 = .ok (.ireturn, 1) := by decide +kernel
theorem d_Place_hasModule_0 : decode b_Place_hasModule 0 = .ok (.iload_n 1, 1) := by decide +kernel
theorem d_Place_hasModule_1 : decode b_Place_hasModule 1 = .ok (.ifCond .lt 27, 3) := by decide +kernel
theorem d_Place_hasModule_4 : decode b_Place_hasModule 4 = .ok (.iload_n 1, 1) := by decide +kernel
theorem d_Place_hasModule_5 : decode b_Place_hasModule 5 = .ok (.aload_n 0, 1) := by decide +kernel
theorem d_Place_hasModule_6 : decode b_Place_hasModule 6 = .ok (.getfield 37, 3) := by decide +kernel
theorem d_Place_hasModule_9 : decode b_Place_hasModule 9 = .ok (.if_icmp .ge 19, 3) := by decide +kernel
theorem d_Place_hasModule_12 : decode b_Place_hasModule 12 = .ok (.iload_n 2, 1) := by decide +kernel
theorem d_Place_hasModule_13 : decode b_Place_hasModule 13 = .ok (.ifCond .lt 15, 3) := by decide +kernel
theorem d_Place_hasModule_16 : decode b_Place_hasModule 16 = .ok (.iload_n 2, 1) := by decide +kernel
theorem d_Place_hasModule_17 : decode b_Place_hasModule 17 = .ok (.aload_n 0, 1) := by decide +kernel
theorem d_Place_hasModule_18 : decode b_Place_hasModule 18 = .ok (.getfield 37, 3) := by decide +kernel
theorem d_Place_hasModule_21 : decode b_Place_hasModule 21 = .ok (.if_icmp .ge 7, 3) := by decide +kernel
theorem d_Place_hasModule_24 : decode b_Place_hasModule 24 = .ok (.iconst 1, 1) := by decide +kernel
theorem d_Place_hasModule_25 : decode b_Place_hasModule 25 = .ok (.goto 4, 3) := by decide +kernel
theorem d_Place_hasModule_28 : decode b_Place_hasModule 28 = .ok (.iconst 0, 1) := by decide +kernel
theorem d_Place_hasModule_29 : decode b_Place_hasModule 29 = .ok (.ireturn, 1) := by decide +kernel
theorem d_Place_blockLeft_0 : decode b_Place_blockLeft 0 = .ok (.aload_n 0, 1) := by decide +kernel
theorem d_Place_blockLeft_1 : decode b_Place_blockLeft 1 = .ok (.getfield 37, 3) := by decide +kernel
theorem d_Place_blockLeft_4 : decode b_Place_blockLeft 4 = .ok (.iconst 1, 1) := by decide +kernel
theorem d_Place_blockLeft_5 : decode b_Place_blockLeft 5 = .ok (.isub, 1) := by decide +kernel
theorem d_Place_blockLeft_6 : decode b_Place_blockLeft 6 = .ok (.istore_n 3, 1) := by decide +kernel
theorem d_Place_blockLeft_7 : decode b_Place_blockLeft 7 = .ok (.aload_n 0, 1) := by decide +kernel
theorem d_Place_blockLeft_8 : decode b_Place_blockLeft 8 = .ok (.getfield 43, 3) := by decide +kernel
theorem d_Place_blockLeft_11 : decode b_Place_blockLeft 11 = .ok (.ifCond .ne 7, 3) := by decide +kernel
theorem d_Place_blockLeft_14 : decode b_Place_blockLeft 14 = .ok (.iload_n 1, 1) := by decide +kernel
theorem d_Place_blockLeft_15 : decode b_Place_blockLeft 15 = .ok (.goto 32, 3) := by decide +kernel
theorem d_Place_blockLeft_18 : decode b_Place_blockLeft 18 = .ok (.aload_n 0, 1) := by decide +kernel
theorem d_Place_blockLeft_19 : decode b_Place_blockLeft 19 = .ok (.getfield 43, 3) := by decide +kernel
theorem d_Place_blockLeft_22 : decode b_Place_blockLeft 22 = .ok (.iconst 1, 1) := by decide +kernel
theorem d_Place_blockLeft_23 : decode b_Place_blockLeft 23 = .ok (.if_icmp .ne 9, 3) := by decide +kernel
theorem d_Place_blockLeft_26 : decode b_Place_blockLeft 26 = .ok (.iload_n 3, 1) := by decide +kernel
theorem d_Place_blockLeft_27 : decode b_Place_blockLeft 27 = .ok (.iload_n 2, 1) := by decide +kernel
theorem d_Place_blockLeft_28 : decode b_Place_blockLeft 28 = .ok (.isub, 1) := by decide +kernel
theorem d_Place_blockLeft_29 : decode b_Place_blockLeft 29 = .ok (.goto 18, 3) := by decide +kernel
theorem d_Place_blockLeft_32 : decode b_Place_blockLeft 32 = .ok (.aload_n 0, 1) := by decide +kernel
theorem d_Place_blockLeft_33 : decode b_Place_blockLeft 33 = .ok (.getfield 43, 3) := by decide +kernel
theorem d_Place_blockLeft_36 : decode b_Place_blockLeft 36 = .ok (.iconst 2, 1) := by decide +kernel
theorem d_Place_blockLeft_37 : decode b_Place_blockLeft 37 = .ok (.if_icmp .ne 9, 3) := by decide +kernel
theorem d_Place_blockLeft_40 : decode b_Place_blockLeft 40 = .ok (.iload_n 3, 1) := by decide +kernel
theorem d_Place_blockLeft_41 : decode b_Place_blockLeft 41 = .ok (.iload_n 1, 1) := by decide +kernel
theorem d_Place_blockLeft_42 : decode b_Place_blockLeft 42 = .ok (.isub, 1) := by decide +kernel
theorem d_Place_blockLeft_43 : decode b_Place_blockLeft 43 = .ok (.goto 4, 3) := by decide +kernel
theorem d_Place_blockLeft_46 : decode b_Place_blockLeft 46 = .ok (.iload_n 2, 1) := by decide +kernel
theorem d_Place_blockLeft_47 : decode b_Place_blockLeft 47 = .ok (.istore 4, 2) := by decide +kernel
theorem d_Place_blockLeft_49 : decode b_Place_blockLeft 49 = .ok (.aload_n 0, 1) := by decide +kernel
theorem d_Place_blockLeft_50 : decode b_Place_blockLeft 50 = .ok (.getfield 15, 3) := by decide +kernel
theorem d_Place_blockLeft_53 : decode b_Place_blockLeft 53 = .ok (.aload_n 0, 1) := by decide +kernel
theorem d_Place_blockLeft_54 : decode b_Place_blockLeft 54 = .ok (.getfield 28, 3) := by decide +kernel
theorem d_Place_blockLeft_57 : decode b_Place_blockLeft 57 = .ok (.iload 4, 2) := by decide +kernel
theorem d_Place_blockLeft_59 : decode b_Place_blockLeft 59 = .ok (.imul, 1) := by decide +kernel
theorem d_Place_blockLeft_60 : decode b_Place_blockLeft 60 = .ok (.iadd, 1) := by decide +kernel
theorem d_Place_blockLeft_61 : decode b_Place_blockLeft 61 = .ok (.ireturn, 1) := by decide +kernel
theorem d_Place_blockTop_0 : decode b_Place_blockTop 0 = .ok (.aload_n 0, 1) := by decide +kernel
theorem d_Place_blockTop_1 : decode b_Place_blockTop 1 = .ok (.getfield 37, 3) := by decide +kernel
theorem d_Place_blockTop_4 : decode b_Place_blockTop 4 = .ok (.iconst 1, 1) := by decide +kernel
theorem d_Place_blockTop_5 : decode b_Place_blockTop 5 = .ok (.isub, 1) := by decide +kernel
theorem d_Place_blockTop_6 : decode b_Place_blockTop 6 = .ok (.istore_n 3, 1) := by decide +kernel
theorem d_Place_blockTop_7 : decode b_Place_blockTop 7 = .ok (.aload_n 0, 1) := by decide +kernel
theorem d_Place_blockTop_8 : decode b_Place_blockTop 8 = .ok (.getfield 43, 3) := by decide +kernel
theorem d_Place_blockTop_11 : decode b_Place_blockTop 11 = .ok (.ifCond .ne 7, 3) := by decide +kernel
theorem d_Place_blockTop_14 : decode b_Place_blockTop 14 = .ok (.iload_n 2, 1) := by decide +kernel
theorem d_Place_blockTop_15 : decode b_Place_blockTop 15 = .ok (.goto 32, 3) := by decide +kernel
theorem d_Place_blockTop_18 : decode b_Place_blockTop 18 = .ok (.aload_n 0, 1) := by decide +kernel
theorem d_Place_blockTop_19 : decode b_Place_blockTop 19 = .ok (.getfield 43, 3) := by decide +kernel
theorem d_Place_blockTop_22 : decode b_Place_blockTop 22 = .ok (.iconst 1, 1) := by decide +kernel
theorem d_Place_blockTop_23 : decode b_Place_blockTop 23 = .ok (.if_icmp .ne 7, 3) := by decide +kernel
theorem d_Place_blockTop_26 : decode b_Place_blockTop 26 = .ok (.iload_n 1, 1) := by decide +kernel
theorem d_Place_blockTop_27 : decode b_Place_blockTop 27 = .ok (.goto 20, 3) := by decide +kernel
theorem d_Place_blockTop_30 : decode b_Place_blockTop 30 = .ok (.aload_n 0, 1) := by decide +kernel
theorem d_Place_blockTop_31 : decode b_Place_blockTop 31 = .ok (.getfield 43, 3) := by decide +kernel
theorem d_Place_blockTop_34 : decode b_Place_blockTop 34 = .ok (.iconst 2, 1) := by decide +kernel
theorem d_Place_blockTop_35 : decode b_Place_blockTop 35 = .ok (.if_icmp .ne 9, 3) := by decide +kernel
theorem d_Place_blockTop_38 : decode b_Place_blockTop 38 = .ok (.iload_n 3, 1) := by decide +kernel
theorem d_Place_blockTop_39 : decode b_Place_blockTop 39 = .ok (.iload_n 2, 1) := by decide +kernel
theorem d_Place_blockTop_40 : decode b_Place_blockTop 40 = .ok (.isub, 1) := by decide +kernel
theorem d_Place_blockTop_41 : decode b_Place_blockTop 41 = .ok (.goto 6, 3) := by decide +kernel
theorem d_Place_blockTop_44 : decode b_Place_blockTop 44 = .ok (.iload_n 3, 1) := by decide +kernel
theorem d_Place_blockTop_45 : decode b_Place_blockTop 45 = .ok (.iload_n 1, 1) := by decide +kernel
theorem d_Place_blockTop_46 : decode b_Place_blockTop 46 = .ok (.isub, 1) := by decide +kernel
theorem d_Place_blockTop_47 : decode b_Place_blockTop 47 = .ok (.istore 4, 2) := by decide +kernel
theorem d_Place_blockTop_49 : decode b_Place_blockTop 49 = .ok (.aload_n 0, 1) := by decide +kernel
theorem d_Place_blockTop_50 : decode b_Place_blockTop 50 = .ok (.getfield 22, 3) := by decide +kernel
theorem d_Place_blockTop_53 : decode b_Place_blockTop 53 = .ok (.aload_n 0, 1) := by decide +kernel
theorem d_Place_blockTop_54 : decode b_Place_blockTop 54 = .ok (.getfield 28, 3) := by decide +kernel
theorem d_Place_blockTop_57 : decode b_Place_blockTop 57 = .ok (.iload 4, 2) := by decide +kernel
theorem d_Place_blockTop_59 : decode b_Place_blockTop 59 = .ok (.imul, 1) := by decide +kernel
theorem d_Place_blockTop_60 : decode b_Place_blockTop 60 = .ok (.iadd, 1) := by decide +kernel
theorem d_Place_blockTop_61 : decode b_Place_blockTop 61 = .ok (.ireturn, 1) := by decide +kernel
end
section
theorem d_List_init_0 : decode b_List_init 0 = .ok (.aload_n 0, 1) := by decide +kernel
theorem d_List_init_1 : decode b_List_init 1 = .ok (.invokespecial 3, 3) := by decide +kernel
theorem d_List_init_4 : decode b_List_init 4 = .ok (.aload_n 0, 1) := by decide +kernel
theorem d_List_init_5 : decode b_List_init 5 = .ok (.sipush 300, 3) := by decide +kernel
theorem d_List_init_8 : decode b_List_init 8 = .ok (.newarray .int, 2) := by decide +kernel
theorem d_List_init_10 : decode b_List_init 10 = .ok (.putfield 9, 3) := by decide +kernel
theorem d_List_init_13 : decode b_List_init 13 = .ok (.aload_n 0, 1) := by decide +kernel
theorem d_List_init_14 : decode b_List_init 14 = .ok (.sipush 300, 3) := by decide +kernel
theorem d_List_init_17 : decode b_List_init 17 = .ok (.newarray .int, 2) := by decide +kernel
theorem d_List_init_19 : decode b_List_init 19 = .ok (.putfield 15, 3) := by decide +kernel
theorem d_List_init_22 : decode b_List_init 22 = .ok (.return_, 1) := by decide +kernel
theorem d_List_clear_0 : decode b_List_clear 0 = .ok (.aload_n 0, 1) := by decide +kernel
theorem d_List_clear_1 : decode b_List_clear 1 = .ok (.iconst 0, 1) := by decide +kernel
theorem d_List_clear_2 : decode b_List_clear 2 = .ok (.putfield 18, 3) := by decide +kernel
theorem d_List_clear_5 : decode b_List_clear 5 = .ok (.return_, 1) := by decide +kernel
theorem d_List_add_0 : decode b_List_add 0 = .ok (.aload_n 0, 1) := by decide +kernel
theorem d_List_add_1 : decode b_List_add 1 = .ok (.getfield 18, 3) := by decide +kernel
theorem d_List_add_4 : decode b_List_add 4 = .ok (.ifCond .lt 13, 3) := by decide +kernel
theorem d_List_add_7 : decode b_List_add 7 = .ok (.aload_n 0, 1) := by decide +kernel
theorem d_List_add_8 : decode b_List_add 8 = .ok (.getfield 18, 3) := by decide +kernel
theorem d_List_add_11 : decode b_List_add 11 = .ok (.sipush 300, 3) := by decide +kernel
theorem d_List_add_14 : decode b_List_add 14 = .ok (.if_icmp .lt 5, 3) := by decide +kernel
theorem d_List_add_17 : decode b_List_add 17 = .ok (.iconst 0, 1) := by decide +kernel
theorem d_List_add_18 : decode b_List_add 18 = .ok (.ireturn, 1) := by decide +kernel
theorem d_List_add_19 : decode b_List_add 19 = .ok (.aload_n 0, 1) := by decide +kernel
theorem d_List_add_20 : decode b_List_add 20 = .ok (.getfield 18, 3) := by decide +kernel
theorem d_List_add_23 : decode b_List_add 23 = .ok (.istore_n 3, 1) := by decide +kernel
theorem d_List_add_24 : decode b_List_add 24 = .ok (.iload_n 3, 1) := by decide +kernel
theorem d_List_add_25 : decode b_List_add 25 = .ok (.ifCond .le 49, 3) := by decide +kernel
theorem d_List_add_28 : decode b_List_add 28 = .ok (.aload_n 0, 1) := by decide +kernel
theorem d_List_add_29 : decode b_List_add 29 = .ok (.getfield 9, 3) := by decide +kernel
theorem d_List_add_32 : decode b_List_add 32 = .ok (.iload_n 3, 1) := by decide +kernel
theorem d_List_add_33 : decode b_List_add 33 = .ok (.iconst 1, 1) := by decide +kernel
theorem d_List_add_34 : decode b_List_add 34 = .ok (.isub, 1) := by decide +kernel
theorem d_List_add_35 : decode b_List_add 35 = .ok (.iaload, 1) := by decide +kernel
theorem d_List_add_36 : decode b_List_add 36 = .ok (.iload_n 1, 1) := by decide +kernel
theorem d_List_add_37 : decode b_List_add 37 = .ok (.if_icmp .le 37, 3) := by decide +kernel
theorem d_List_add_40 : decode b_List_add 40 = .ok (.aload_n 0, 1) := by decide +kernel
theorem d_List_add_41 : decode b_List_add 41 = .ok (.getfield 9, 3) := by decide +kernel
theorem d_List_add_44 : decode b_List_add 44 = .ok (.iload_n 3, 1) := by decide +kernel
theorem d_List_add_45 : decode b_List_add 45 = .ok (.aload_n 0, 1) := by decide +kernel
theorem d_List_add_46 : decode b_List_add 46 = .ok (.getfield 9, 3) := by decide +kernel
theorem d_List_add_49 : decode b_List_add 49 = .ok (.iload_n 3, 1) := by decide +kernel
theorem d_List_add_50 : decode b_List_add 50 = .ok (.iconst 1, 1) := by decide +kernel
theorem d_List_add_51 : decode b_List_add 51 = .ok (.isub, 1) := by decide +kernel
theorem d_List_add_52 : decode b_List_add 52 = .ok (.iaload, 1) := by decide +kernel
theorem d_List_add_53 : decode b_List_add 53 = .ok (.iastore, 1) := by decide +kernel
theorem d_List_add_54 : decode b_List_add 54 = .ok (.aload_n 0, 1) := by decide +kernel
theorem d_List_add_55 : decode b_List_add 55 = .ok (.getfield 15, 3) := by decide +kernel
theorem d_List_add_58 : decode b_List_add 58 = .ok (.iload_n 3, 1) := by decide +kernel
theorem d_List_add_59 : decode b_List_add 59 = .ok (.aload_n 0, 1) := by decide +kernel
theorem d_List_add_60 : decode b_List_add 60 = .ok (.getfield 15, 3) := by decide +kernel
theorem d_List_add_63 : decode b_List_add 63 = .ok (.iload_n 3, 1) := by decide +kernel
theorem d_List_add_64 : decode b_List_add 64 = .ok (.iconst 1, 1) := by decide +kernel
theorem d_List_add_65 : decode b_List_add 65 = .ok (.isub, 1) := by decide +kernel
theorem d_List_add_66 : decode b_List_add 66 = .ok (.iaload, 1) := by decide +kernel
theorem d_List_add_67 : decode b_List_add 67 = .ok (.iastore, 1) := by decide +kernel
theorem d_List_add_68 : decode b_List_add 68 = .ok (.iinc 3 (-1), 3) := by decide +kernel
theorem d_List_add_71 : decode b_List_add 71 = .ok (.goto (-47), 3) := by decide +kernel
theorem d_List_add_74 : decode b_List_add 74 = .ok (.aload_n 0, 1) := by decide +kernel
theorem d_List_add_75 : decode b_List_add 75 = .ok (.getfield 9, 3) := by decide +kernel
theorem d_List_add_78 : decode b_List_add 78 = .ok (.iload_n 3, 1) := by decide +kernel
theorem d_List_add_79 : decode b_List_add 79 = .ok (.iload_n 1, 1) := by decide +kernel
theorem d_List_add_80 : decode b_List_add 80 = .ok (.iastore, 1) := by decide +kernel
theorem d_List_add_81 : decode b_List_add 81 = .ok (.aload_n 0, 1) := by decide +kernel
theorem d_List_add_82 : decode b_List_add 82 = .ok (.getfield 15, 3) := by decide +kernel
theorem d_List_add_85 : decode b_List_add 85 = .ok (.iload_n 3, 1) := by decide +kernel
theorem d_List_add_86 : decode b_List_add 86 = .ok (.iload_n 2, 1) := by decide +kernel
theorem d_List_add_87 : decode b_List_add 87 = .ok (.iastore, 1) := by decide +kernel
theorem d_List_add_88 : decode b_List_add 88 = .ok (.aload_n 0, 1) := by decide +kernel
theorem d_List_add_89 : decode b_List_add 89 = .ok (.dup, 1) := by decide +kernel
theorem d_List_add_90 : decode b_List_add 90 = .ok (.getfield 18, 3) := by decide +kernel
theorem d_List_add_93 : decode b_List_add 93 = .ok (.iconst 1, 1) := by decide +kernel
theorem d_List_add_94 : decode b_List_add 94 = .ok (.iadd, 1) := by decide +kernel
theorem d_List_add_95 : decode b_List_add 95 = .ok (.putfield 18, 3) := by decide +kernel
theorem d_List_add_98 : decode b_List_add 98 = .ok (.iconst 1, 1) := by decide +kernel
theorem d_List_add_99 : decode b_List_add 99 = .ok (.ireturn, 1) := by decide +kernel
theorem d_List_takeLeaders_0 : decode b_List_takeLeaders 0 = .ok (.aload_n 0, 1) := by decide +kernel
theorem d_List_takeLeaders_1 : decode b_List_takeLeaders 1 = .ok (.invokevirtual 22, 3) := by decide +kernel
theorem d_List_takeLeaders_4 : decode b_List_takeLeaders 4 = .ok (.iconst 0, 1) := by decide +kernel
theorem d_List_takeLeaders_5 : decode b_List_takeLeaders 5 = .ok (.istore_n 2, 1) := by decide +kernel
theorem d_List_takeLeaders_6 : decode b_List_takeLeaders 6 = .ok (.iload_n 2, 1) := by decide +kernel
theorem d_List_takeLeaders_7 : decode b_List_takeLeaders 7 = .ok (.aload_n 1, 1) := by decide +kernel
theorem d_List_takeLeaders_8 : decode b_List_takeLeaders 8 = .ok (.getfield 18, 3) := by decide +kernel
theorem d_List_takeLeaders_11 : decode b_List_takeLeaders 11 = .ok (.if_icmp .ge 34, 3) := by decide +kernel
theorem d_List_takeLeaders_14 : decode b_List_takeLeaders 14 = .ok (.aload_n 1, 1) := by decide +kernel
theorem d_List_takeLeaders_15 : decode b_List_takeLeaders 15 = .ok (.iload_n 2, 1) := by decide +kernel
theorem d_List_takeLeaders_16 : decode b_List_takeLeaders 16 = .ok (.invokevirtual 25, 3) := by decide +kernel
theorem d_List_takeLeaders_19 : decode b_List_takeLeaders 19 = .ok (.ifCond .eq 20, 3) := by decide +kernel
theorem d_List_takeLeaders_22 : decode b_List_takeLeaders 22 = .ok (.aload_n 0, 1) := by decide +kernel
theorem d_List_takeLeaders_23 : decode b_List_takeLeaders 23 = .ok (.aload_n 1, 1) := by decide +kernel
theorem d_List_takeLeaders_24 : decode b_List_takeLeaders 24 = .ok (.getfield 9, 3) := by decide +kernel
theorem d_List_takeLeaders_27 : decode b_List_takeLeaders 27 = .ok (.iload_n 2, 1) := by decide +kernel
theorem d_List_takeLeaders_28 : decode b_List_takeLeaders 28 = .ok (.iaload, 1) := by decide +kernel
theorem d_List_takeLeaders_29 : decode b_List_takeLeaders 29 = .ok (.aload_n 1, 1) := by decide +kernel
theorem d_List_takeLeaders_30 : decode b_List_takeLeaders 30 = .ok (.getfield 15, 3) := by decide +kernel
theorem d_List_takeLeaders_33 : decode b_List_takeLeaders 33 = .ok (.iload_n 2, 1) := by decide +kernel
theorem d_List_takeLeaders_34 : decode b_List_takeLeaders 34 = .ok (.iaload, 1) := by decide +kernel
theorem d_List_takeLeaders_35 : decode b_List_takeLeaders 35 = .ok (.invokevirtual 29, 3) := by decide +kernel
theorem d_List_takeLeaders_38 : decode b_List_takeLeaders 38 = .ok (.pop, 1) := by decide +kernel
theorem d_List_takeLeaders_39 : decode b_List_takeLeaders 39 = .ok (.iinc 2 1, 3) := by decide +kernel
theorem d_List_takeLeaders_42 : decode b_List_takeLeaders 42 = .ok (.goto (-36), 3) := by decide +kernel
theorem d_List_takeLeaders_45 : decode b_List_takeLeaders 45 = .ok (.return_, 1) := by decide +kernel
theorem d_List_leads_0 : decode b_List_leads 0 = .ok (.iconst 0, 1) := by decide +kernel
theorem d_List_leads_1 : decode b_List_leads 1 = .ok (.istore_n 2, 1) := by decide +kernel
theorem d_List_leads_2 : decode b_List_leads 2 = .ok (.iload_n 2, 1) := by decide +kernel
theorem d_List_leads_3 : decode b_List_leads 3 = .ok (.aload_n 0, 1) := by decide +kernel
theorem d_List_leads_4 : decode b_List_leads 4 = .ok (.getfield 18, 3) := by decide +kernel
theorem d_List_leads_7 : decode b_List_leads 7 = .ok (.if_icmp .ge 38, 3) := by decide +kernel
theorem d_List_leads_10 : decode b_List_leads 10 = .ok (.aload_n 0, 1) := by decide +kernel
theorem d_List_leads_11 : decode b_List_leads 11 = .ok (.iload_n 2, 1) := by decide +kernel
theorem d_List_leads_12 : decode b_List_leads 12 = .ok (.iload_n 1, 1) := by decide +kernel
theorem d_List_leads_13 : decode b_List_leads 13 = .ok (.invokevirtual 33, 3) := by decide +kernel
theorem d_List_leads_16 : decode b_List_leads 16 = .ok (.ifCond .eq 23, 3) := by decide +kernel
theorem d_List_leads_19 : decode b_List_leads 19 = .ok (.aload_n 0, 1) := by decide +kernel
theorem d_List_leads_20 : decode b_List_leads 20 = .ok (.getfield 9, 3) := by decide +kernel
theorem d_List_leads_23 : decode b_List_leads 23 = .ok (.iload_n 2, 1) := by decide +kernel
theorem d_List_leads_24 : decode b_List_leads 24 = .ok (.iaload, 1) := by decide +kernel
theorem d_List_leads_25 : decode b_List_leads 25 = .ok (.aload_n 0, 1) := by decide +kernel
theorem d_List_leads_26 : decode b_List_leads 26 = .ok (.getfield 9, 3) := by decide +kernel
theorem d_List_leads_29 : decode b_List_leads 29 = .ok (.iload_n 1, 1) := by decide +kernel
theorem d_List_leads_30 : decode b_List_leads 30 = .ok (.iaload, 1) := by decide +kernel
theorem d_List_leads_31 : decode b_List_leads 31 = .ok (.invokestatic 36, 3) := by decide +kernel
theorem d_List_leads_34 : decode b_List_leads 34 = .ok (.ifCond .eq 5, 3) := by decide +kernel
theorem d_List_leads_37 : decode b_List_leads 37 = .ok (.iconst 0, 1) := by decide +kernel
theorem d_List_leads_38 : decode b_List_leads 38 = .ok (.ireturn, 1) := by decide +kernel
theorem d_List_leads_39 : decode b_List_leads 39 = .ok (.iinc 2 1, 3) := by decide +kernel
theorem d_List_leads_42 : decode b_List_leads 42 = .ok (.goto (-40), 3) := by decide +kernel
theorem d_List_leads_45 : decode b_List_leads 45 = .ok (.iconst 1, 1) := by decide +kernel
theorem d_List_leads_46 : decode b_List_leads 46 = .ok (.ireturn, 1) := by decide +kernel
theorem d_List_isBetter_0 : decode b_List_isBetter 0 = .ok (.aload_n 0, 1) := by decide +kernel
theorem d_List_isBetter_1 : decode b_List_isBetter 1 = .ok (.getfield 15, 3) := by decide +kernel
theorem d_List_isBetter_4 : decode b_List_isBetter 4 = .ok (.iload_n 1, 1) := by decide +kernel
theorem d_List_isBetter_5 : decode b_List_isBetter 5 = .ok (.iaload, 1) := by decide +kernel
theorem d_List_isBetter_6 : decode b_List_isBetter 6 = .ok (.aload_n 0, 1) := by decide +kernel
theorem d_List_isBetter_7 : decode b_List_isBetter 7 = .ok (.getfield 15, 3) := by decide +kernel
theorem d_List_isBetter_10 : decode b_List_isBetter 10 = .ok (.iload_n 2, 1) := by decide +kernel
theorem d_List_isBetter_11 : decode b_List_isBetter 11 = .ok (.iaload, 1) := by decide +kernel
theorem d_List_isBetter_12 : decode b_List_isBetter 12 = .ok (.if_icmp .lt 23, 3) := by decide +kernel
theorem d_List_isBetter_15 : decode b_List_isBetter 15 = .ok (.aload_n 0, 1) := by decide +kernel
theorem d_List_isBetter_16 : decode b_List_isBetter 16 = .ok (.getfield 15, 3) := by decide +kernel
theorem d_List_isBetter_19 : decode b_List_isBetter 19 = .ok (.iload_n 1, 1) := by decide +kernel
theorem d_List_isBetter_20 : decode b_List_isBetter 20 = .ok (.iaload, 1) := by decide +kernel
theorem d_List_isBetter_21 : decode b_List_isBetter 21 = .ok (.aload_n 0, 1) := by decide +kernel
theorem d_List_isBetter_22 : decode b_List_isBetter 22 = .ok (.getfield 15, 3) := by decide +kernel
theorem d_List_isBetter_25 : decode b_List_isBetter 25 = .ok (.iload_n 2, 1) := by decide +kernel
theorem d_List_isBetter_26 : decode b_List_isBetter 26 = .ok (.iaload, 1) := by decide +kernel
theorem d_List_isBetter_27 : decode b_List_isBetter 27 = .ok (.if_icmp .ne 12, 3) := by decide +kernel
theorem d_List_isBetter_30 : decode b_List_isBetter 30 = .ok (.iload_n 1, 1) := by decide +kernel
theorem d_List_isBetter_31 : decode b_List_isBetter 31 = .ok (.iload_n 2, 1) := by decide +kernel
theorem d_List_isBetter_32 : decode b_List_isBetter 32 = .ok (.if_icmp .ge 7, 3) := by decide +kernel
theorem d_List_isBetter_35 : decode b_List_isBetter 35 = .ok (.iconst 1, 1) := by decide +kernel
theorem d_List_isBetter_36 : decode b_List_isBetter 36 = .ok (.goto 4, 3) := by decide +kernel
theorem d_List_isBetter_39 : decode b_List_isBetter 39 = .ok (.iconst 0, 1) := by decide +kernel
theorem d_List_isBetter_40 : decode b_List_isBetter 40 = .ok (.ireturn, 1) := by decide +kernel
end
section
theorem d_Search_init_0 : decode b_Search_init 0 = .ok (.aload_n 0, 1) := by decide +kernel
theorem d_Search_init_1 : decode b_Search_init 1 = .ok (.invokespecial 3, 3) := by decide +kernel
theorem d_Search_init_4 : decode b_Search_init 4 = .ok (.aload_n 0, 1) := by decide +kernel
theorem d_Search_init_5 : decode b_Search_init 5 = .ok (.new 9, 3) := by decide +kernel
theorem d_Search_init_8 : decode b_Search_init 8 = .ok (.dup, 1) := by decide +kernel
theorem d_Search_init_9 : decode b_Search_init 9 = .ok (.invokespecial 11, 3) := by decide +kernel
theorem d_Search_init_12 : decode b_Search_init 12 = .ok (.putfield 12, 3) := by decide +kernel
theorem d_Search_init_15 : decode b_Search_init 15 = .ok (.aload_n 0, 1) := by decide +kernel
theorem d_Search_init_16 : decode b_Search_init 16 = .ok (.new 18, 3) := by decide +kernel
theorem d_Search_init_19 : decode b_Search_init 19 = .ok (.dup, 1) := by decide +kernel
theorem d_Search_init_20 : decode b_Search_init 20 = .ok (.invokespecial 20, 3) := by decide +kernel
theorem d_Search_init_23 : decode b_Search_init 23 = .ok (.putfield 21, 3) := by decide +kernel
theorem d_Search_init_26 : decode b_Search_init 26 = .ok (.aload_n 0, 1) := by decide +kernel
theorem d_Search_init_27 : decode b_Search_init 27 = .ok (.iconst 4, 1) := by decide +kernel
theorem d_Search_init_28 : decode b_Search_init 28 = .ok (.newarray .int, 2) := by decide +kernel
theorem d_Search_init_30 : decode b_Search_init 30 = .ok (.putfield 25, 3) := by decide +kernel
theorem d_Search_init_33 : decode b_Search_init 33 = .ok (.aload_n 0, 1) := by decide +kernel
theorem d_Search_init_34 : decode b_Search_init 34 = .ok (.ldc 29, 2) := by decide +kernel
theorem d_Search_init_36 : decode b_Search_init 36 = .ok (.newarray .long, 2) := by decide +kernel
theorem d_Search_init_38 : decode b_Search_init 38 = .ok (.putfield 30, 3) := by decide +kernel
theorem d_Search_init_41 : decode b_Search_init 41 = .ok (.return_, 1) := by decide +kernel
theorem d_Search_look_0 : decode b_Search_look 0 = .ok (.aload_n 0, 1) := by decide +kernel
theorem d_Search_look_1 : decode b_Search_look 1 = .ok (.getfield 21, 3) := by decide +kernel
theorem d_Search_look_4 : decode b_Search_look 4 = .ok (.invokevirtual 34, 3) := by decide +kernel
theorem d_Search_look_7 : decode b_Search_look 7 = .ok (.aload_n 0, 1) := by decide +kernel
theorem d_Search_look_8 : decode b_Search_look 8 = .ok (.iload_n 3, 1) := by decide +kernel
theorem d_Search_look_9 : decode b_Search_look 9 = .ok (.putfield 37, 3) := by decide +kernel
theorem d_Search_look_12 : decode b_Search_look 12 = .ok (.aload_n 0, 1) := by decide +kernel
theorem d_Search_look_13 : decode b_Search_look 13 = .ok (.iload_n 3, 1) := by decide +kernel
theorem d_Search_look_14 : decode b_Search_look 14 = .ok (.iconst 3, 1) := by decide +kernel
theorem d_Search_look_15 : decode b_Search_look 15 = .ok (.idiv, 1) := by decide +kernel
theorem d_Search_look_16 : decode b_Search_look 16 = .ok (.putfield 41, 3) := by decide +kernel
theorem d_Search_look_19 : decode b_Search_look 19 = .ok (.aload_n 0, 1) := by decide +kernel
theorem d_Search_look_20 : decode b_Search_look 20 = .ok (.iconst 0, 1) := by decide +kernel
theorem d_Search_look_21 : decode b_Search_look 21 = .ok (.putfield 44, 3) := by decide +kernel
theorem d_Search_look_24 : decode b_Search_look 24 = .ok (.aload_n 0, 1) := by decide +kernel
theorem d_Search_look_25 : decode b_Search_look 25 = .ok (.getfield 12, 3) := by decide +kernel
theorem d_Search_look_28 : decode b_Search_look 28 = .ok (.getfield 48, 3) := by decide +kernel
theorem d_Search_look_31 : decode b_Search_look 31 = .ok (.aload_n 0, 1) := by decide +kernel
theorem d_Search_look_32 : decode b_Search_look 32 = .ok (.getfield 12, 3) := by decide +kernel
theorem d_Search_look_35 : decode b_Search_look 35 = .ok (.getfield 51, 3) := by decide +kernel
theorem d_Search_look_38 : decode b_Search_look 38 = .ok (.invokestatic 54, 3) := by decide +kernel
theorem d_Search_look_41 : decode b_Search_look 41 = .ok (.istore 4, 2) := by decide +kernel
theorem d_Search_look_43 : decode b_Search_look 43 = .ok (.iload_n 1, 1) := by decide +kernel
theorem d_Search_look_44 : decode b_Search_look 44 = .ok (.istore 5, 2) := by decide +kernel
theorem d_Search_look_46 : decode b_Search_look 46 = .ok (.iload 5, 2) := by decide +kernel
theorem d_Search_look_48 : decode b_Search_look 48 = .ok (.iload_n 2, 1) := by decide +kernel
theorem d_Search_look_49 : decode b_Search_look 49 = .ok (.if_icmp .gt 70, 3) := by decide +kernel
theorem d_Search_look_52 : decode b_Search_look 52 = .ok (.iload 5, 2) := by decide +kernel
theorem d_Search_look_54 : decode b_Search_look 54 = .ok (.iconst 1, 1) := by decide +kernel
theorem d_Search_look_55 : decode b_Search_look 55 = .ok (.invokestatic 60, 3) := by decide +kernel
theorem d_Search_look_58 : decode b_Search_look 58 = .ok (.imul, 1) := by decide +kernel
theorem d_Search_look_59 : decode b_Search_look 59 = .ok (.iload 4, 2) := by decide +kernel
theorem d_Search_look_61 : decode b_Search_look 61 = .ok (.if_icmp .gt 58, 3) := by decide +kernel
theorem d_Search_look_64 : decode b_Search_look 64 = .ok (.aload_n 0, 1) := by decide +kernel
theorem d_Search_look_65 : decode b_Search_look 65 = .ok (.iload 5, 2) := by decide +kernel
theorem d_Search_look_67 : decode b_Search_look 67 = .ok (.putfield 66, 3) := by decide +kernel
theorem d_Search_look_70 : decode b_Search_look 70 = .ok (.aload_n 0, 1) := by decide +kernel
theorem d_Search_look_71 : decode b_Search_look 71 = .ok (.dup, 1) := by decide +kernel
theorem d_Search_look_72 : decode b_Search_look 72 = .ok (.getfield 69, 3) := by decide +kernel
theorem d_Search_look_75 : decode b_Search_look 75 = .ok (.iconst 1, 1) := by decide +kernel
theorem d_Search_look_76 : decode b_Search_look 76 = .ok (.iadd, 1) := by decide +kernel
theorem d_Search_look_77 : decode b_Search_look 77 = .ok (.putfield 69, 3) := by decide +kernel
theorem d_Search_look_80 : decode b_Search_look 80 = .ok (.aload_n 0, 1) := by decide +kernel
theorem d_Search_look_81 : decode b_Search_look 81 = .ok (.iconst 0, 1) := by decide +kernel
theorem d_Search_look_82 : decode b_Search_look 82 = .ok (.iconst 0, 1) := by decide +kernel
theorem d_Search_look_83 : decode b_Search_look 83 = .ok (.aload_n 0, 1) := by decide +kernel
theorem d_Search_look_84 : decode b_Search_look 84 = .ok (.getfield 12, 3) := by decide +kernel
theorem d_Search_look_87 : decode b_Search_look 87 = .ok (.getfield 48, 3) := by decide +kernel
theorem d_Search_look_90 : decode b_Search_look 90 = .ok (.bipush 7, 2) := by decide +kernel
theorem d_Search_look_92 : decode b_Search_look 92 = .ok (.iload 5, 2) := by decide +kernel
theorem d_Search_look_94 : decode b_Search_look 94 = .ok (.imul, 1) := by decide +kernel
theorem d_Search_look_95 : decode b_Search_look 95 = .ok (.isub, 1) := by decide +kernel
theorem d_Search_look_96 : decode b_Search_look 96 = .ok (.aload_n 0, 1) := by decide +kernel
theorem d_Search_look_97 : decode b_Search_look 97 = .ok (.getfield 12, 3) := by decide +kernel
theorem d_Search_look_100 : decode b_Search_look 100 = .ok (.getfield 51, 3) := by decide +kernel
theorem d_Search_look_103 : decode b_Search_look 103 = .ok (.bipush 7, 2) := by decide +kernel
theorem d_Search_look_105 : decode b_Search_look 105 = .ok (.iload 5, 2) := by decide +kernel
theorem d_Search_look_107 : decode b_Search_look 107 = .ok (.imul, 1) := by decide +kernel
theorem d_Search_look_108 : decode b_Search_look 108 = .ok (.isub, 1) := by decide +kernel
theorem d_Search_look_109 : decode b_Search_look 109 = .ok (.iconst 0, 1) := by decide +kernel
theorem d_Search_look_110 : decode b_Search_look 110 = .ok (.invokevirtual 72, 3) := by decide +kernel
theorem d_Search_look_113 : decode b_Search_look 113 = .ok (.iinc 5 1, 3) := by decide +kernel
theorem d_Search_look_116 : decode b_Search_look 116 = .ok (.goto (-70), 3) := by decide +kernel
theorem d_Search_look_119 : decode b_Search_look 119 = .ok (.aload_n 0, 1) := by decide +kernel
theorem d_Search_look_120 : decode b_Search_look 120 = .ok (.getfield 44, 3) := by decide +kernel
theorem d_Search_look_123 : decode b_Search_look 123 = .ok (.ifCond .ne 7, 3) := by decide +kernel
theorem d_Search_look_126 : decode b_Search_look 126 = .ok (.iconst 1, 1) := by decide +kernel
theorem d_Search_look_127 : decode b_Search_look 127 = .ok (.goto 4, 3) := by decide +kernel
theorem d_Search_look_130 : decode b_Search_look 130 = .ok (.iconst 0, 1) := by decide +kernel
theorem d_Search_look_131 : decode b_Search_look 131 = .ok (.ireturn, 1) := by decide +kernel
theorem d_Search_siftFinders_0 : decode b_Search_siftFinders 0 = .ok (.aload_n 0, 1) := by decide +kernel
theorem d_Search_siftFinders_1 : decode b_Search_siftFinders 1 = .ok (.getfield 44, 3) := by decide +kernel
theorem d_Search_siftFinders_4 : decode b_Search_siftFinders 4 = .ok (.ifCond .ne 21, 3) := by decide +kernel
theorem d_Search_siftFinders_7 : decode b_Search_siftFinders 7 = .ok (.iload 5, 2) := by decide +kernel
theorem d_Search_siftFinders_9 : decode b_Search_siftFinders 9 = .ok (.bipush 10, 2) := by decide +kernel
theorem d_Search_siftFinders_11 : decode b_Search_siftFinders 11 = .ok (.if_icmp .gt 14, 3) := by decide +kernel
theorem d_Search_siftFinders_14 : decode b_Search_siftFinders 14 = .ok (.iload_n 1, 1) := by decide +kernel
theorem d_Search_siftFinders_15 : decode b_Search_siftFinders 15 = .ok (.iload_n 3, 1) := by decide +kernel
theorem d_Search_siftFinders_16 : decode b_Search_siftFinders 16 = .ok (.if_icmp .gt 9, 3) := by decide +kernel
theorem d_Search_siftFinders_19 : decode b_Search_siftFinders 19 = .ok (.iload_n 2, 1) := by decide +kernel
theorem d_Search_siftFinders_20 : decode b_Search_siftFinders 20 = .ok (.iload 4, 2) := by decide +kernel
theorem d_Search_siftFinders_22 : decode b_Search_siftFinders 22 = .ok (.if_icmp .le 4, 3) := by decide +kernel
theorem d_Search_siftFinders_25 : decode b_Search_siftFinders 25 = .ok (.return_, 1) := by decide +kernel
theorem d_Search_siftFinders_26 : decode b_Search_siftFinders 26 = .ok (.aload_n 0, 1) := by decide +kernel
theorem d_Search_siftFinders_27 : decode b_Search_siftFinders 27 = .ok (.iload_n 1, 1) := by decide +kernel
theorem d_Search_siftFinders_28 : decode b_Search_siftFinders 28 = .ok (.iload_n 2, 1) := by decide +kernel
theorem d_Search_siftFinders_29 : decode b_Search_siftFinders 29 = .ok (.iload_n 3, 1) := by decide +kernel
theorem d_Search_siftFinders_30 : decode b_Search_siftFinders 30 = .ok (.iload 4, 2) := by decide +kernel
theorem d_Search_siftFinders_32 : decode b_Search_siftFinders 32 = .ok (.invokevirtual 76, 3) := by decide +kernel
theorem d_Search_siftFinders_35 : decode b_Search_siftFinders 35 = .ok (.aload_n 0, 1) := by decide +kernel
theorem d_Search_siftFinders_36 : decode b_Search_siftFinders 36 = .ok (.iload_n 1, 1) := by decide +kernel
theorem d_Search_siftFinders_37 : decode b_Search_siftFinders 37 = .ok (.iload_n 2, 1) := by decide +kernel
theorem d_Search_siftFinders_38 : decode b_Search_siftFinders 38 = .ok (.invokevirtual 80, 3) := by decide +kernel
theorem d_Search_siftFinders_41 : decode b_Search_siftFinders 41 = .ok (.aload_n 0, 1) := by decide +kernel
theorem d_Search_siftFinders_42 : decode b_Search_siftFinders 42 = .ok (.getfield 41, 3) := by decide +kernel
theorem d_Search_siftFinders_45 : decode b_Search_siftFinders 45 = .ok (.if_icmp .le 4, 3) := by decide +kernel
theorem d_Search_siftFinders_48 : decode b_Search_siftFinders 48 = .ok (.return_, 1) := by decide +kernel
theorem d_Search_siftFinders_49 : decode b_Search_siftFinders 49 = .ok (.aload_n 0, 1) := by decide +kernel
theorem d_Search_siftFinders_50 : decode b_Search_siftFinders 50 = .ok (.invokevirtual 83, 3) := by decide +kernel
theorem d_Search_siftFinders_53 : decode b_Search_siftFinders 53 = .ok (.ifCond .ne 19, 3) := by decide +kernel
theorem d_Search_siftFinders_56 : decode b_Search_siftFinders 56 = .ok (.aload_n 0, 1) := by decide +kernel
theorem d_Search_siftFinders_57 : decode b_Search_siftFinders 57 = .ok (.iload_n 1, 1) := by decide +kernel
theorem d_Search_siftFinders_58 : decode b_Search_siftFinders 58 = .ok (.iload_n 2, 1) := by decide +kernel
theorem d_Search_siftFinders_59 : decode b_Search_siftFinders 59 = .ok (.bipush 7, 2) := by decide +kernel
theorem d_Search_siftFinders_61 : decode b_Search_siftFinders 61 = .ok (.aload_n 0, 1) := by decide +kernel
theorem d_Search_siftFinders_62 : decode b_Search_siftFinders 62 = .ok (.getfield 66, 3) := by decide +kernel
theorem d_Search_siftFinders_65 : decode b_Search_siftFinders 65 = .ok (.imul, 1) := by decide +kernel
theorem d_Search_siftFinders_66 : decode b_Search_siftFinders 66 = .ok (.invokevirtual 87, 3) := by decide +kernel
theorem d_Search_siftFinders_69 : decode b_Search_siftFinders 69 = .ok (.ifCond .eq 13, 3) := by decide +kernel
theorem d_Search_siftFinders_72 : decode b_Search_siftFinders 72 = .ok (.aload_n 0, 1) := by decide +kernel
theorem d_Search_siftFinders_73 : decode b_Search_siftFinders 73 = .ok (.iload_n 1, 1) := by decide +kernel
theorem d_Search_siftFinders_74 : decode b_Search_siftFinders 74 = .ok (.iload_n 2, 1) := by decide +kernel
theorem d_Search_siftFinders_75 : decode b_Search_siftFinders 75 = .ok (.iload_n 3, 1) := by decide +kernel
theorem d_Search_siftFinders_76 : decode b_Search_siftFinders 76 = .ok (.iload 4, 2) := by decide +kernel
theorem d_Search_siftFinders_78 : decode b_Search_siftFinders 78 = .ok (.invokevirtual 91, 3) := by decide +kernel
theorem d_Search_siftFinders_81 : decode b_Search_siftFinders 81 = .ok (.return_, 1) := by decide +kernel
theorem d_Search_siftFinders_82 : decode b_Search_siftFinders 82 = .ok (.iload_n 1, 1) := by decide +kernel
theorem d_Search_siftFinders_83 : decode b_Search_siftFinders 83 = .ok (.iload_n 3, 1) := by decide +kernel
theorem d_Search_siftFinders_84 : decode b_Search_siftFinders 84 = .ok (.iadd, 1) := by decide +kernel
theorem d_Search_siftFinders_85 : decode b_Search_siftFinders 85 = .ok (.iconst 2, 1) := by decide +kernel
theorem d_Search_siftFinders_86 : decode b_Search_siftFinders 86 = .ok (.idiv, 1) := by decide +kernel
theorem d_Search_siftFinders_87 : decode b_Search_siftFinders 87 = .ok (.istore 6, 2) := by decide +kernel
theorem d_Search_siftFinders_89 : decode b_Search_siftFinders 89 = .ok (.iload_n 2, 1) := by decide +kernel
theorem d_Search_siftFinders_90 : decode b_Search_siftFinders 90 = .ok (.iload 4, 2) := by decide +kernel
theorem d_Search_siftFinders_92 : decode b_Search_siftFinders 92 = .ok (.iadd, 1) := by decide +kernel
theorem d_Search_siftFinders_93 : decode b_Search_siftFinders 93 = .ok (.iconst 2, 1) := by decide +kernel
theorem d_Search_siftFinders_94 : decode b_Search_siftFinders 94 = .ok (.idiv, 1) := by decide +kernel
theorem d_Search_siftFinders_95 : decode b_Search_siftFinders 95 = .ok (.istore 7, 2) := by decide +kernel
theorem d_Search_siftFinders_97 : decode b_Search_siftFinders 97 = .ok (.aload_n 0, 1) := by decide +kernel
theorem d_Search_siftFinders_98 : decode b_Search_siftFinders 98 = .ok (.iload_n 1, 1) := by decide +kernel
theorem d_Search_siftFinders_99 : decode b_Search_siftFinders 99 = .ok (.iload_n 2, 1) := by decide +kernel
theorem d_Search_siftFinders_100 : decode b_Search_siftFinders 100 = .ok (.iload 6, 2) := by decide +kernel
theorem d_Search_siftFinders_102 : decode b_Search_siftFinders 102 = .ok (.iload 7, 2) := by decide +kernel
theorem d_Search_siftFinders_104 : decode b_Search_siftFinders 104 = .ok (.iload 5, 2) := by decide +kernel
theorem d_Search_siftFinders_106 : decode b_Search_siftFinders 106 = .ok (.iconst 1, 1) := by decide +kernel
theorem d_Search_siftFinders_107 : decode b_Search_siftFinders 107 = .ok (.iadd, 1) := by decide +kernel
theorem d_Search_siftFinders_108 : decode b_Search_siftFinders 108 = .ok (.invokevirtual 72, 3) := by decide +kernel
theorem d_Search_siftFinders_111 : decode b_Search_siftFinders 111 = .ok (.aload_n 0, 1) := by decide +kernel
theorem d_Search_siftFinders_112 : decode b_Search_siftFinders 112 = .ok (.iload 6, 2) := by decide +kernel
theorem d_Search_siftFinders_114 : decode b_Search_siftFinders 114 = .ok (.iconst 1, 1) := by decide +kernel
theorem d_Search_siftFinders_115 : decode b_Search_siftFinders 115 = .ok (.iadd, 1) := by decide +kernel
theorem d_Search_siftFinders_116 : decode b_Search_siftFinders 116 = .ok (.iload_n 2, 1) := by decide +kernel
theorem d_Search_siftFinders_117 : decode b_Search_siftFinders 117 = .ok (.iload_n 3, 1) := by decide +kernel
theorem d_Search_siftFinders_118 : decode b_Search_siftFinders 118 = .ok (.iload 7, 2) := by decide +kernel
theorem d_Search_siftFinders_120 : decode b_Search_siftFinders 120 = .ok (.iload 5, 2) := by decide +kernel
theorem d_Search_siftFinders_122 : decode b_Search_siftFinders 122 = .ok (.iconst 1, 1) := by decide +kernel
theorem d_Search_siftFinders_123 : decode b_Search_siftFinders 123 = .ok (.iadd, 1) := by decide +kernel
theorem d_Search_siftFinders_124 : decode b_Search_siftFinders 124 = .ok (.invokevirtual 72, 3) := by decide +kernel
theorem d_Search_siftFinders_127 : decode b_Search_siftFinders 127 = .ok (.aload_n 0, 1) := by decide +kernel
theorem d_Search_siftFinders_128 : decode b_Search_siftFinders 128 = .ok (.iload_n 1, 1) := by decide +kernel
theorem d_Search_siftFinders_129 : decode b_Search_siftFinders 129 = .ok (.iload 7, 2) := by decide +kernel
theorem d_Search_siftFinders_131 : decode b_Search_siftFinders 131 = .ok (.iconst 1, 1) := by decide +kernel
theorem d_Search_siftFinders_132 : decode b_Search_siftFinders 132 = .ok (.iadd, 1) := by decide +kernel
theorem d_Search_siftFinders_133 : decode b_Search_siftFinders 133 = .ok (.iload 6, 2) := by decide +kernel
theorem d_Search_siftFinders_135 : decode b_Search_siftFinders 135 = .ok (.iload 4, 2) := by decide +kernel
theorem d_Search_siftFinders_137 : decode b_Search_siftFinders 137 = .ok (.iload 5, 2) := by decide +kernel
theorem d_Search_siftFinders_139 : decode b_Search_siftFinders 139 = .ok (.iconst 1, 1) := by decide +kernel
theorem d_Search_siftFinders_140 : decode b_Search_siftFinders 140 = .ok (.iadd, 1) := by decide +kernel
theorem d_Search_siftFinders_141 : decode b_Search_siftFinders 141 = .ok (.invokevirtual 72, 3) := by decide +kernel
theorem d_Search_siftFinders_144 : decode b_Search_siftFinders 144 = .ok (.aload_n 0, 1) := by decide +kernel
theorem d_Search_siftFinders_145 : decode b_Search_siftFinders 145 = .ok (.iload 6, 2) := by decide +kernel
theorem d_Search_siftFinders_147 : decode b_Search_siftFinders 147 = .ok (.iconst 1, 1) := by decide +kernel
theorem d_Search_siftFinders_148 : decode b_Search_siftFinders 148 = .ok (.iadd, 1) := by decide +kernel
theorem d_Search_siftFinders_149 : decode b_Search_siftFinders 149 = .ok (.iload 7, 2) := by decide +kernel
theorem d_Search_siftFinders_151 : decode b_Search_siftFinders 151 = .ok (.iconst 1, 1) := by decide +kernel
theorem d_Search_siftFinders_152 : decode b_Search_siftFinders 152 = .ok (.iadd, 1) := by decide +kernel
theorem d_Search_siftFinders_153 : decode b_Search_siftFinders 153 = .ok (.iload_n 3, 1) := by decide +kernel
theorem d_Search_siftFinders_154 : decode b_Search_siftFinders 154 = .ok (.iload 4, 2) := by decide +kernel
theorem d_Search_siftFinders_156 : decode b_Search_siftFinders 156 = .ok (.iload 5, 2) := by decide +kernel
theorem d_Search_siftFinders_158 : decode b_Search_siftFinders 158 = .ok (.iconst 1, 1) := by decide +kernel
theorem d_Search_siftFinders_159 : decode b_Search_siftFinders 159 = .ok (.iadd, 1) := by decide +kernel
theorem d_Search_siftFinders_160 : decode b_Search_siftFinders 160 = .ok (.invokevirtual 72, 3) := by decide +kernel
theorem d_Search_siftFinders_163 : decode b_Search_siftFinders 163 = .ok (.return_, 1) := by decide +kernel
theorem d_Search_siftVersions_0 : decode b_Search_siftVersions 0 = .ok (.aload_n 0, 1) := by decide +kernel
theorem d_Search_siftVersions_1 : decode b_Search_siftVersions 1 = .ok (.invokevirtual 83, 3) := by decide +kernel
theorem d_Search_siftVersions_4 : decode b_Search_siftVersions 4 = .ok (.istore 5, 2) := by decide +kernel
theorem d_Search_siftVersions_6 : decode b_Search_siftVersions 6 = .ok (.iconst 0, 1) := by decide +kernel
theorem d_Search_siftVersions_7 : decode b_Search_siftVersions 7 = .ok (.istore 6, 2) := by decide +kernel
theorem d_Search_siftVersions_9 : decode b_Search_siftVersions 9 = .ok (.iload 6, 2) := by decide +kernel
theorem d_Search_siftVersions_11 : decode b_Search_siftVersions 11 = .ok (.iconst 4, 1) := by decide +kernel
theorem d_Search_siftVersions_12 : decode b_Search_siftVersions 12 = .ok (.if_icmp .ge 213, 3) := by decide +kernel
theorem d_Search_siftVersions_15 : decode b_Search_siftVersions 15 = .ok (.bipush 15, 2) := by decide +kernel
theorem d_Search_siftVersions_17 : decode b_Search_siftVersions 17 = .ok (.iconst 1, 1) := by decide +kernel
theorem d_Search_siftVersions_18 : decode b_Search_siftVersions 18 = .ok (.iload 6, 2) := by decide +kernel
theorem d_Search_siftVersions_20 : decode b_Search_siftVersions 20 = .ok (.iconst 2, 1) := by decide +kernel
theorem d_Search_siftVersions_21 : decode b_Search_siftVersions 21 = .ok (.iadd, 1) := by decide +kernel
theorem d_Search_siftVersions_22 : decode b_Search_siftVersions 22 = .ok (.iconst 3, 1) := by decide +kernel
theorem d_Search_siftVersions_23 : decode b_Search_siftVersions 23 = .ok (.iand, 1) := by decide +kernel
theorem d_Search_siftVersions_24 : decode b_Search_siftVersions 24 = .ok (.ishl, 1) := by decide +kernel
theorem d_Search_siftVersions_25 : decode b_Search_siftVersions 25 = .ok (.iconst (-1), 1) := by decide +kernel
theorem d_Search_siftVersions_26 : decode b_Search_siftVersions 26 = .ok (.ixor, 1) := by decide +kernel
theorem d_Search_siftVersions_27 : decode b_Search_siftVersions 27 = .ok (.iand, 1) := by decide +kernel
theorem d_Search_siftVersions_28 : decode b_Search_siftVersions 28 = .ok (.istore 7, 2) := by decide +kernel
theorem d_Search_siftVersions_30 : decode b_Search_siftVersions 30 = .ok (.iload 5, 2) := by decide +kernel
theorem d_Search_siftVersions_32 : decode b_Search_siftVersions 32 = .ok (.ifCond .eq 22, 3) := by decide +kernel
theorem d_Search_siftVersions_35 : decode b_Search_siftVersions 35 = .ok (.aload_n 0, 1) := by decide +kernel
theorem d_Search_siftVersions_36 : decode b_Search_siftVersions 36 = .ok (.iload 6, 2) := by decide +kernel
theorem d_Search_siftVersions_38 : decode b_Search_siftVersions 38 = .ok (.iload_n 1, 1) := by decide +kernel
theorem d_Search_siftVersions_39 : decode b_Search_siftVersions 39 = .ok (.iload_n 2, 1) := by decide +kernel
theorem d_Search_siftVersions_40 : decode b_Search_siftVersions 40 = .ok (.invokevirtual 94, 3) := by decide +kernel
theorem d_Search_siftVersions_43 : decode b_Search_siftVersions 43 = .ok (.aload_n 0, 1) := by decide +kernel
theorem d_Search_siftVersions_44 : decode b_Search_siftVersions 44 = .ok (.getfield 41, 3) := by decide +kernel
theorem d_Search_siftVersions_47 : decode b_Search_siftVersions 47 = .ok (.if_icmp .le 7, 3) := by decide +kernel
theorem d_Search_siftVersions_50 : decode b_Search_siftVersions 50 = .ok (.iconst 0, 1) := by decide +kernel
theorem d_Search_siftVersions_51 : decode b_Search_siftVersions 51 = .ok (.goto 5, 3) := by decide +kernel
theorem d_Search_siftVersions_54 : decode b_Search_siftVersions 54 = .ok (.bipush 40, 2) := by decide +kernel
theorem d_Search_siftVersions_56 : decode b_Search_siftVersions 56 = .ok (.istore 8, 2) := by decide +kernel
theorem d_Search_siftVersions_58 : decode b_Search_siftVersions 58 = .ok (.iconst 1, 1) := by decide +kernel
theorem d_Search_siftVersions_59 : decode b_Search_siftVersions 59 = .ok (.istore 9, 2) := by decide +kernel
theorem d_Search_siftVersions_61 : decode b_Search_siftVersions 61 = .ok (.iload 9, 2) := by decide +kernel
theorem d_Search_siftVersions_63 : decode b_Search_siftVersions 63 = .ok (.iload 8, 2) := by decide +kernel
theorem d_Search_siftVersions_65 : decode b_Search_siftVersions 65 = .ok (.if_icmp .gt 154, 3) := by decide +kernel
theorem d_Search_siftVersions_68 : decode b_Search_siftVersions 68 = .ok (.aload_n 0, 1) := by decide +kernel
theorem d_Search_siftVersions_69 : decode b_Search_siftVersions 69 = .ok (.iload 9, 2) := by decide +kernel
theorem d_Search_siftVersions_71 : decode b_Search_siftVersions 71 = .ok (.invokestatic 60, 3) := by decide +kernel
theorem d_Search_siftVersions_74 : decode b_Search_siftVersions 74 = .ok (.putfield 98, 3) := by decide +kernel
theorem d_Search_siftVersions_77 : decode b_Search_siftVersions 77 = .ok (.aload_n 0, 1) := by decide +kernel
theorem d_Search_siftVersions_78 : decode b_Search_siftVersions 78 = .ok (.getfield 98, 3) := by decide +kernel
theorem d_Search_siftVersions_81 : decode b_Search_siftVersions 81 = .ok (.bipush 7, 2) := by decide +kernel
theorem d_Search_siftVersions_83 : decode b_Search_siftVersions 83 = .ok (.isub, 1) := by decide +kernel
theorem d_Search_siftVersions_84 : decode b_Search_siftVersions 84 = .ok (.aload_n 0, 1) := by decide +kernel
theorem d_Search_siftVersions_85 : decode b_Search_siftVersions 85 = .ok (.getfield 66, 3) := by decide +kernel
theorem d_Search_siftVersions_88 : decode b_Search_siftVersions 88 = .ok (.imul, 1) := by decide +kernel
theorem d_Search_siftVersions_89 : decode b_Search_siftVersions 89 = .ok (.istore 10, 2) := by decide +kernel
theorem d_Search_siftVersions_91 : decode b_Search_siftVersions 91 = .ok (.iload 6, 2) := by decide +kernel
theorem d_Search_siftVersions_93 : decode b_Search_siftVersions 93 = .ok (.invokestatic 101, 3) := by decide +kernel
theorem d_Search_siftVersions_96 : decode b_Search_siftVersions 96 = .ok (.ifCond .eq 8, 3) := by decide +kernel
theorem d_Search_siftVersions_99 : decode b_Search_siftVersions 99 = .ok (.iload 10, 2) := by decide +kernel
theorem d_Search_siftVersions_101 : decode b_Search_siftVersions 101 = .ok (.goto 4, 3) := by decide +kernel
theorem d_Search_siftVersions_104 : decode b_Search_siftVersions 104 = .ok (.iconst 0, 1) := by decide +kernel
theorem d_Search_siftVersions_105 : decode b_Search_siftVersions 105 = .ok (.istore 11, 2) := by decide +kernel
theorem d_Search_siftVersions_107 : decode b_Search_siftVersions 107 = .ok (.iload 6, 2) := by decide +kernel
theorem d_Search_siftVersions_109 : decode b_Search_siftVersions 109 = .ok (.invokestatic 105, 3) := by decide +kernel
theorem d_Search_siftVersions_112 : decode b_Search_siftVersions 112 = .ok (.ifCond .eq 8, 3) := by decide +kernel
theorem d_Search_siftVersions_115 : decode b_Search_siftVersions 115 = .ok (.iload 10, 2) := by decide +kernel
theorem d_Search_siftVersions_117 : decode b_Search_siftVersions 117 = .ok (.goto 4, 3) := by decide +kernel
theorem d_Search_siftVersions_120 : decode b_Search_siftVersions 120 = .ok (.iconst 0, 1) := by decide +kernel
theorem d_Search_siftVersions_121 : decode b_Search_siftVersions 121 = .ok (.istore 12, 2) := by decide +kernel
theorem d_Search_siftVersions_123 : decode b_Search_siftVersions 123 = .ok (.iload_n 3, 1) := by decide +kernel
theorem d_Search_siftVersions_124 : decode b_Search_siftVersions 124 = .ok (.iload 11, 2) := by decide +kernel
theorem d_Search_siftVersions_126 : decode b_Search_siftVersions 126 = .ok (.isub, 1) := by decide +kernel
theorem d_Search_siftVersions_127 : decode b_Search_siftVersions 127 = .ok (.aload_n 0, 1) := by decide +kernel
theorem d_Search_siftVersions_128 : decode b_Search_siftVersions 128 = .ok (.getfield 12, 3) := by decide +kernel
theorem d_Search_siftVersions_131 : decode b_Search_siftVersions 131 = .ok (.getfield 48, 3) := by decide +kernel
theorem d_Search_siftVersions_134 : decode b_Search_siftVersions 134 = .ok (.aload_n 0, 1) := by decide +kernel
theorem d_Search_siftVersions_135 : decode b_Search_siftVersions 135 = .ok (.getfield 98, 3) := by decide +kernel
theorem d_Search_siftVersions_138 : decode b_Search_siftVersions 138 = .ok (.aload_n 0, 1) := by decide +kernel
theorem d_Search_siftVersions_139 : decode b_Search_siftVersions 139 = .ok (.getfield 66, 3) := by decide +kernel
theorem d_Search_siftVersions_142 : decode b_Search_siftVersions 142 = .ok (.imul, 1) := by decide +kernel
theorem d_Search_siftVersions_143 : decode b_Search_siftVersions 143 = .ok (.isub, 1) := by decide +kernel
theorem d_Search_siftVersions_144 : decode b_Search_siftVersions 144 = .ok (.invokestatic 54, 3) := by decide +kernel
theorem d_Search_siftVersions_147 : decode b_Search_siftVersions 147 = .ok (.istore 13, 2) := by decide +kernel
theorem d_Search_siftVersions_149 : decode b_Search_siftVersions 149 = .ok (.iload 4, 2) := by decide +kernel
theorem d_Search_siftVersions_151 : decode b_Search_siftVersions 151 = .ok (.iload 12, 2) := by decide +kernel
theorem d_Search_siftVersions_153 : decode b_Search_siftVersions 153 = .ok (.isub, 1) := by decide +kernel
theorem d_Search_siftVersions_154 : decode b_Search_siftVersions 154 = .ok (.aload_n 0, 1) := by decide +kernel
theorem d_Search_siftVersions_155 : decode b_Search_siftVersions 155 = .ok (.getfield 12, 3) := by decide +kernel
theorem d_Search_siftVersions_158 : decode b_Search_siftVersions 158 = .ok (.getfield 51, 3) := by decide +kernel
theorem d_Search_siftVersions_161 : decode b_Search_siftVersions 161 = .ok (.aload_n 0, 1) := by decide +kernel
theorem d_Search_siftVersions_162 : decode b_Search_siftVersions 162 = .ok (.getfield 98, 3) := by decide +kernel
theorem d_Search_siftVersions_165 : decode b_Search_siftVersions 165 = .ok (.aload_n 0, 1) := by decide +kernel
theorem d_Search_siftVersions_166 : decode b_Search_siftVersions 166 = .ok (.getfield 66, 3) := by decide +kernel
theorem d_Search_siftVersions_169 : decode b_Search_siftVersions 169 = .ok (.imul, 1) := by decide +kernel
theorem d_Search_siftVersions_170 : decode b_Search_siftVersions 170 = .ok (.isub, 1) := by decide +kernel
theorem d_Search_siftVersions_171 : decode b_Search_siftVersions 171 = .ok (.invokestatic 54, 3) := by decide +kernel
theorem d_Search_siftVersions_174 : decode b_Search_siftVersions 174 = .ok (.istore 14, 2) := by decide +kernel
theorem d_Search_siftVersions_176 : decode b_Search_siftVersions 176 = .ok (.iload_n 1, 1) := by decide +kernel
theorem d_Search_siftVersions_177 : decode b_Search_siftVersions 177 = .ok (.iload 11, 2) := by decide +kernel
theorem d_Search_siftVersions_179 : decode b_Search_siftVersions 179 = .ok (.isub, 1) := by decide +kernel
theorem d_Search_siftVersions_180 : decode b_Search_siftVersions 180 = .ok (.iconst 0, 1) := by decide +kernel
theorem d_Search_siftVersions_181 : decode b_Search_siftVersions 181 = .ok (.invokestatic 108, 3) := by decide +kernel
theorem d_Search_siftVersions_184 : decode b_Search_siftVersions 184 = .ok (.istore 15, 2) := by decide +kernel
theorem d_Search_siftVersions_186 : decode b_Search_siftVersions 186 = .ok (.iload_n 2, 1) := by decide +kernel
theorem d_Search_siftVersions_187 : decode b_Search_siftVersions 187 = .ok (.iload 12, 2) := by decide +kernel
theorem d_Search_siftVersions_189 : decode b_Search_siftVersions 189 = .ok (.isub, 1) := by decide +kernel
theorem d_Search_siftVersions_190 : decode b_Search_siftVersions 190 = .ok (.iconst 0, 1) := by decide +kernel
theorem d_Search_siftVersions_191 : decode b_Search_siftVersions 191 = .ok (.invokestatic 108, 3) := by decide +kernel
theorem d_Search_siftVersions_194 : decode b_Search_siftVersions 194 = .ok (.istore 16, 2) := by decide +kernel
theorem d_Search_siftVersions_196 : decode b_Search_siftVersions 196 = .ok (.aload_n 0, 1) := by decide +kernel
theorem d_Search_siftVersions_197 : decode b_Search_siftVersions 197 = .ok (.iload 6, 2) := by decide +kernel
theorem d_Search_siftVersions_199 : decode b_Search_siftVersions 199 = .ok (.iload 7, 2) := by decide +kernel
theorem d_Search_siftVersions_201 : decode b_Search_siftVersions 201 = .ok (.iload 15, 2) := by decide +kernel
theorem d_Search_siftVersions_203 : decode b_Search_siftVersions 203 = .ok (.iload 16, 2) := by decide +kernel
theorem d_Search_siftVersions_205 : decode b_Search_siftVersions 205 = .ok (.iload 13, 2) := by decide +kernel
theorem d_Search_siftVersions_207 : decode b_Search_siftVersions 207 = .ok (.iload 14, 2) := by decide +kernel
theorem d_Search_siftVersions_209 : decode b_Search_siftVersions 209 = .ok (.iconst 0, 1) := by decide +kernel
theorem d_Search_siftVersions_210 : decode b_Search_siftVersions 210 = .ok (.invokevirtual 111, 3) := by decide +kernel
theorem d_Search_siftVersions_213 : decode b_Search_siftVersions 213 = .ok (.iinc 9 1, 3) := by decide +kernel
theorem d_Search_siftVersions_216 : decode b_Search_siftVersions 216 = .ok (.goto (-155), 3) := by decide +kernel
theorem d_Search_siftVersions_219 : decode b_Search_siftVersions 219 = .ok (.iinc 6 1, 3) := by decide +kernel
theorem d_Search_siftVersions_222 : decode b_Search_siftVersions 222 = .ok (.goto (-213), 3) := by decide +kernel
theorem d_Search_siftVersions_225 : decode b_Search_siftVersions 225 = .ok (.return_, 1) := by decide +kernel
theorem d_Search_siftPlaces_0 : decode b_Search_siftPlaces 0 = .ok (.aload_n 0, 1) := by decide +kernel
theorem d_Search_siftPlaces_1 : decode b_Search_siftPlaces 1 = .ok (.getfield 44, 3) := by decide +kernel
theorem d_Search_siftPlaces_4 : decode b_Search_siftPlaces 4 = .ok (.ifCond .ne 23, 3) := by decide +kernel
theorem d_Search_siftPlaces_7 : decode b_Search_siftPlaces 7 = .ok (.iload 7, 2) := by decide +kernel
theorem d_Search_siftPlaces_9 : decode b_Search_siftPlaces 9 = .ok (.bipush 10, 2) := by decide +kernel
theorem d_Search_siftPlaces_11 : decode b_Search_siftPlaces 11 = .ok (.if_icmp .gt 16, 3) := by decide +kernel
theorem d_Search_siftPlaces_14 : decode b_Search_siftPlaces 14 = .ok (.iload_n 3, 1) := by decide +kernel
theorem d_Search_siftPlaces_15 : decode b_Search_siftPlaces 15 = .ok (.iload 5, 2) := by decide +kernel
theorem d_Search_siftPlaces_17 : decode b_Search_siftPlaces 17 = .ok (.if_icmp .gt 10, 3) := by decide +kernel
theorem d_Search_siftPlaces_20 : decode b_Search_siftPlaces 20 = .ok (.iload 4, 2) := by decide +kernel
theorem d_Search_siftPlaces_22 : decode b_Search_siftPlaces 22 = .ok (.iload 6, 2) := by decide +kernel
theorem d_Search_siftPlaces_24 : decode b_Search_siftPlaces 24 = .ok (.if_icmp .le 4, 3) := by decide +kernel
theorem d_Search_siftPlaces_27 : decode b_Search_siftPlaces 27 = .ok (.return_, 1) := by decide +kernel
theorem d_Search_siftPlaces_28 : decode b_Search_siftPlaces 28 = .ok (.aload_n 0, 1) := by decide +kernel
theorem d_Search_siftPlaces_29 : decode b_Search_siftPlaces 29 = .ok (.iload_n 3, 1) := by decide +kernel
theorem d_Search_siftPlaces_30 : decode b_Search_siftPlaces 30 = .ok (.iload 4, 2) := by decide +kernel
theorem d_Search_siftPlaces_32 : decode b_Search_siftPlaces 32 = .ok (.iload 5, 2) := by decide +kernel
theorem d_Search_siftPlaces_34 : decode b_Search_siftPlaces 34 = .ok (.iload 6, 2) := by decide +kernel
theorem d_Search_siftPlaces_36 : decode b_Search_siftPlaces 36 = .ok (.invokevirtual 76, 3) := by decide +kernel
theorem d_Search_siftPlaces_39 : decode b_Search_siftPlaces 39 = .ok (.aload_n 0, 1) := by decide +kernel
theorem d_Search_siftPlaces_40 : decode b_Search_siftPlaces 40 = .ok (.invokevirtual 83, 3) := by decide +kernel
theorem d_Search_siftPlaces_43 : decode b_Search_siftPlaces 43 = .ok (.istore 8, 2) := by decide +kernel
theorem d_Search_siftPlaces_45 : decode b_Search_siftPlaces 45 = .ok (.iload_n 2, 1) := by decide +kernel
theorem d_Search_siftPlaces_46 : decode b_Search_siftPlaces 46 = .ok (.istore 9, 2) := by decide +kernel
theorem d_Search_siftPlaces_48 : decode b_Search_siftPlaces 48 = .ok (.aload_n 0, 1) := by decide +kernel
theorem d_Search_siftPlaces_49 : decode b_Search_siftPlaces 49 = .ok (.getfield 25, 3) := by decide +kernel
theorem d_Search_siftPlaces_52 : decode b_Search_siftPlaces 52 = .ok (.iconst 0, 1) := by decide +kernel
theorem d_Search_siftPlaces_53 : decode b_Search_siftPlaces 53 = .ok (.invokestatic 115, 3) := by decide +kernel
theorem d_Search_siftPlaces_56 : decode b_Search_siftPlaces 56 = .ok (.iconst 0, 1) := by decide +kernel
theorem d_Search_siftPlaces_57 : decode b_Search_siftPlaces 57 = .ok (.istore 10, 2) := by decide +kernel
theorem d_Search_siftPlaces_59 : decode b_Search_siftPlaces 59 = .ok (.iload 10, 2) := by decide +kernel
theorem d_Search_siftPlaces_61 : decode b_Search_siftPlaces 61 = .ok (.iconst 4, 1) := by decide +kernel
theorem d_Search_siftPlaces_62 : decode b_Search_siftPlaces 62 = .ok (.if_icmp .ge 170, 3) := by decide +kernel
theorem d_Search_siftPlaces_65 : decode b_Search_siftPlaces 65 = .ok (.iload_n 1, 1) := by decide +kernel
theorem d_Search_siftPlaces_66 : decode b_Search_siftPlaces 66 = .ok (.iload 10, 2) := by decide +kernel
theorem d_Search_siftPlaces_68 : decode b_Search_siftPlaces 68 = .ok (.iadd, 1) := by decide +kernel
theorem d_Search_siftPlaces_69 : decode b_Search_siftPlaces 69 = .ok (.iconst 3, 1) := by decide +kernel
theorem d_Search_siftPlaces_70 : decode b_Search_siftPlaces 70 = .ok (.iand, 1) := by decide +kernel
theorem d_Search_siftPlaces_71 : decode b_Search_siftPlaces 71 = .ok (.istore 11, 2) := by decide +kernel
theorem d_Search_siftPlaces_73 : decode b_Search_siftPlaces 73 = .ok (.iconst 1, 1) := by decide +kernel
theorem d_Search_siftPlaces_74 : decode b_Search_siftPlaces 74 = .ok (.iload 11, 2) := by decide +kernel
theorem d_Search_siftPlaces_76 : decode b_Search_siftPlaces 76 = .ok (.iconst 2, 1) := by decide +kernel
theorem d_Search_siftPlaces_77 : decode b_Search_siftPlaces 77 = .ok (.iadd, 1) := by decide +kernel
theorem d_Search_siftPlaces_78 : decode b_Search_siftPlaces 78 = .ok (.iconst 3, 1) := by decide +kernel
theorem d_Search_siftPlaces_79 : decode b_Search_siftPlaces 79 = .ok (.iand, 1) := by decide +kernel
theorem d_Search_siftPlaces_80 : decode b_Search_siftPlaces 80 = .ok (.ishl, 1) := by decide +kernel
theorem d_Search_siftPlaces_81 : decode b_Search_siftPlaces 81 = .ok (.istore 12, 2) := by decide +kernel
theorem d_Search_siftPlaces_83 : decode b_Search_siftPlaces 83 = .ok (.iload 9, 2) := by decide +kernel
theorem d_Search_siftPlaces_85 : decode b_Search_siftPlaces 85 = .ok (.iload 12, 2) := by decide +kernel
theorem d_Search_siftPlaces_87 : decode b_Search_siftPlaces 87 = .ok (.iconst (-1), 1) := by decide +kernel
theorem d_Search_siftPlaces_88 : decode b_Search_siftPlaces 88 = .ok (.ixor, 1) := by decide +kernel
theorem d_Search_siftPlaces_89 : decode b_Search_siftPlaces 89 = .ok (.iand, 1) := by decide +kernel
theorem d_Search_siftPlaces_90 : decode b_Search_siftPlaces 90 = .ok (.ifCond .eq 136, 3) := by decide +kernel
theorem d_Search_siftPlaces_93 : decode b_Search_siftPlaces 93 = .ok (.aload_n 0, 1) := by decide +kernel
theorem d_Search_siftPlaces_94 : decode b_Search_siftPlaces 94 = .ok (.iload 11, 2) := by decide +kernel
theorem d_Search_siftPlaces_96 : decode b_Search_siftPlaces 96 = .ok (.invokevirtual 121, 3) := by decide +kernel
theorem d_Search_siftPlaces_99 : decode b_Search_siftPlaces 99 = .ok (.istore 13, 2) := by decide +kernel
theorem d_Search_siftPlaces_101 : decode b_Search_siftPlaces 101 = .ok (.aload_n 0, 1) := by decide +kernel
theorem d_Search_siftPlaces_102 : decode b_Search_siftPlaces 102 = .ok (.iload 11, 2) := by decide +kernel
theorem d_Search_siftPlaces_104 : decode b_Search_siftPlaces 104 = .ok (.invokevirtual 124, 3) := by decide +kernel
theorem d_Search_siftPlaces_107 : decode b_Search_siftPlaces 107 = .ok (.istore 14, 2) := by decide +kernel
theorem d_Search_siftPlaces_109 : decode b_Search_siftPlaces 109 = .ok (.iload 8, 2) := by decide +kernel
theorem d_Search_siftPlaces_111 : decode b_Search_siftPlaces 111 = .ok (.ifCond .eq 16, 3) := by decide +kernel
theorem d_Search_siftPlaces_114 : decode b_Search_siftPlaces 114 = .ok (.aload_n 0, 1) := by decide +kernel
theorem d_Search_siftPlaces_115 : decode b_Search_siftPlaces 115 = .ok (.iload 11, 2) := by decide +kernel
theorem d_Search_siftPlaces_117 : decode b_Search_siftPlaces 117 = .ok (.iload 13, 2) := by decide +kernel
theorem d_Search_siftPlaces_119 : decode b_Search_siftPlaces 119 = .ok (.iload 14, 2) := by decide +kernel
theorem d_Search_siftPlaces_121 : decode b_Search_siftPlaces 121 = .ok (.invokevirtual 94, 3) := by decide +kernel
theorem d_Search_siftPlaces_124 : decode b_Search_siftPlaces 124 = .ok (.goto 22, 3) := by decide +kernel
theorem d_Search_siftPlaces_127 : decode b_Search_siftPlaces 127 = .ok (.aload_n 0, 1) := by decide +kernel
theorem d_Search_siftPlaces_128 : decode b_Search_siftPlaces 128 = .ok (.iload 13, 2) := by decide +kernel
theorem d_Search_siftPlaces_130 : decode b_Search_siftPlaces 130 = .ok (.iload 14, 2) := by decide +kernel
theorem d_Search_siftPlaces_132 : decode b_Search_siftPlaces 132 = .ok (.invokevirtual 80, 3) := by decide +kernel
theorem d_Search_siftPlaces_135 : decode b_Search_siftPlaces 135 = .ok (.aload_n 0, 1) := by decide +kernel
theorem d_Search_siftPlaces_136 : decode b_Search_siftPlaces 136 = .ok (.iload 11, 2) := by decide +kernel
theorem d_Search_siftPlaces_138 : decode b_Search_siftPlaces 138 = .ok (.iload 13, 2) := by decide +kernel
theorem d_Search_siftPlaces_140 : decode b_Search_siftPlaces 140 = .ok (.iload 14, 2) := by decide +kernel
theorem d_Search_siftPlaces_142 : decode b_Search_siftPlaces 142 = .ok (.invokevirtual 127, 3) := by decide +kernel
theorem d_Search_siftPlaces_145 : decode b_Search_siftPlaces 145 = .ok (.iadd, 1) := by decide +kernel
theorem d_Search_siftPlaces_146 : decode b_Search_siftPlaces 146 = .ok (.istore 15, 2) := by decide +kernel
theorem d_Search_siftPlaces_148 : decode b_Search_siftPlaces 148 = .ok (.iload 10, 2) := by decide +kernel
theorem d_Search_siftPlaces_150 : decode b_Search_siftPlaces 150 = .ok (.ifCond .ne 16, 3) := by decide +kernel
theorem d_Search_siftPlaces_153 : decode b_Search_siftPlaces 153 = .ok (.iload 15, 2) := by decide +kernel
theorem d_Search_siftPlaces_155 : decode b_Search_siftPlaces 155 = .ok (.aload_n 0, 1) := by decide +kernel
theorem d_Search_siftPlaces_156 : decode b_Search_siftPlaces 156 = .ok (.getfield 41, 3) := by decide +kernel
theorem d_Search_siftPlaces_159 : decode b_Search_siftPlaces 159 = .ok (.if_icmp .le 7, 3) := by decide +kernel
theorem d_Search_siftPlaces_162 : decode b_Search_siftPlaces 162 = .ok (.iconst 1, 1) := by decide +kernel
end
section
theorem d_Search_siftPlaces_163 : decode b_Search_siftPlaces 163 = .ok (.goto 4, 3) := by decide +kernel
theorem d_Search_siftPlaces_166 : decode b_Search_siftPlaces 166 = .ok (.iconst 0, 1) := by decide +kernel
theorem d_Search_siftPlaces_167 : decode b_Search_siftPlaces 167 = .ok (.istore 16, 2) := by decide +kernel
theorem d_Search_siftPlaces_169 : decode b_Search_siftPlaces 169 = .ok (.iload 8, 2) := by decide +kernel
theorem d_Search_siftPlaces_171 : decode b_Search_siftPlaces 171 = .ok (.ifCond .eq 22, 3) := by decide +kernel
theorem d_Search_siftPlaces_174 : decode b_Search_siftPlaces 174 = .ok (.iload 11, 2) := by decide +kernel
theorem d_Search_siftPlaces_176 : decode b_Search_siftPlaces 176 = .ok (.iload_n 1, 1) := by decide +kernel
theorem d_Search_siftPlaces_177 : decode b_Search_siftPlaces 177 = .ok (.if_icmp .ge 16, 3) := by decide +kernel
theorem d_Search_siftPlaces_180 : decode b_Search_siftPlaces 180 = .ok (.iload 15, 2) := by decide +kernel
theorem d_Search_siftPlaces_182 : decode b_Search_siftPlaces 182 = .ok (.aload_n 0, 1) := by decide +kernel
theorem d_Search_siftPlaces_183 : decode b_Search_siftPlaces 183 = .ok (.getfield 41, 3) := by decide +kernel
theorem d_Search_siftPlaces_186 : decode b_Search_siftPlaces 186 = .ok (.if_icmp .gt 7, 3) := by decide +kernel
theorem d_Search_siftPlaces_189 : decode b_Search_siftPlaces 189 = .ok (.iconst 1, 1) := by decide +kernel
theorem d_Search_siftPlaces_190 : decode b_Search_siftPlaces 190 = .ok (.goto 4, 3) := by decide +kernel
theorem d_Search_siftPlaces_193 : decode b_Search_siftPlaces 193 = .ok (.iconst 0, 1) := by decide +kernel
theorem d_Search_siftPlaces_194 : decode b_Search_siftPlaces 194 = .ok (.istore 17, 2) := by decide +kernel
theorem d_Search_siftPlaces_196 : decode b_Search_siftPlaces 196 = .ok (.iload 16, 2) := by decide +kernel
theorem d_Search_siftPlaces_198 : decode b_Search_siftPlaces 198 = .ok (.ifCond .ne 8, 3) := by decide +kernel
theorem d_Search_siftPlaces_201 : decode b_Search_siftPlaces 201 = .ok (.iload 17, 2) := by decide +kernel
theorem d_Search_siftPlaces_203 : decode b_Search_siftPlaces 203 = .ok (.ifCond .eq 11, 3) := by decide +kernel
theorem d_Search_siftPlaces_206 : decode b_Search_siftPlaces 206 = .ok (.iload 9, 2) := by decide +kernel
theorem d_Search_siftPlaces_208 : decode b_Search_siftPlaces 208 = .ok (.iload 12, 2) := by decide +kernel
theorem d_Search_siftPlaces_210 : decode b_Search_siftPlaces 210 = .ok (.iand, 1) := by decide +kernel
theorem d_Search_siftPlaces_211 : decode b_Search_siftPlaces 211 = .ok (.goto 13, 3) := by decide +kernel
theorem d_Search_siftPlaces_214 : decode b_Search_siftPlaces 214 = .ok (.aload_n 0, 1) := by decide +kernel
theorem d_Search_siftPlaces_215 : decode b_Search_siftPlaces 215 = .ok (.iload 11, 2) := by decide +kernel
theorem d_Search_siftPlaces_217 : decode b_Search_siftPlaces 217 = .ok (.iload 15, 2) := by decide +kernel
theorem d_Search_siftPlaces_219 : decode b_Search_siftPlaces 219 = .ok (.iload 9, 2) := by decide +kernel
theorem d_Search_siftPlaces_221 : decode b_Search_siftPlaces 221 = .ok (.invokevirtual 130, 3) := by decide +kernel
theorem d_Search_siftPlaces_224 : decode b_Search_siftPlaces 224 = .ok (.istore 9, 2) := by decide +kernel
theorem d_Search_siftPlaces_226 : decode b_Search_siftPlaces 226 = .ok (.iinc 10 1, 3) := by decide +kernel
theorem d_Search_siftPlaces_229 : decode b_Search_siftPlaces 229 = .ok (.goto (-170), 3) := by decide +kernel
theorem d_Search_siftPlaces_232 : decode b_Search_siftPlaces 232 = .ok (.iconst 0, 1) := by decide +kernel
theorem d_Search_siftPlaces_233 : decode b_Search_siftPlaces 233 = .ok (.istore 10, 2) := by decide +kernel
theorem d_Search_siftPlaces_235 : decode b_Search_siftPlaces 235 = .ok (.iload 10, 2) := by decide +kernel
theorem d_Search_siftPlaces_237 : decode b_Search_siftPlaces 237 = .ok (.iconst 4, 1) := by decide +kernel
theorem d_Search_siftPlaces_238 : decode b_Search_siftPlaces 238 = .ok (.if_icmp .ge 78, 3) := by decide +kernel
theorem d_Search_siftPlaces_241 : decode b_Search_siftPlaces 241 = .ok (.iload 9, 2) := by decide +kernel
theorem d_Search_siftPlaces_243 : decode b_Search_siftPlaces 243 = .ok (.iload 10, 2) := by decide +kernel
theorem d_Search_siftPlaces_245 : decode b_Search_siftPlaces 245 = .ok (.ishr, 1) := by decide +kernel
theorem d_Search_siftPlaces_246 : decode b_Search_siftPlaces 246 = .ok (.iconst 1, 1) := by decide +kernel
theorem d_Search_siftPlaces_247 : decode b_Search_siftPlaces 247 = .ok (.iand, 1) := by decide +kernel
theorem d_Search_siftPlaces_248 : decode b_Search_siftPlaces 248 = .ok (.ifCond .eq 62, 3) := by decide +kernel
theorem d_Search_siftPlaces_251 : decode b_Search_siftPlaces 251 = .ok (.aload_n 0, 1) := by decide +kernel
theorem d_Search_siftPlaces_252 : decode b_Search_siftPlaces 252 = .ok (.getfield 25, 3) := by decide +kernel
theorem d_Search_siftPlaces_255 : decode b_Search_siftPlaces 255 = .ok (.iload 10, 2) := by decide +kernel
theorem d_Search_siftPlaces_257 : decode b_Search_siftPlaces 257 = .ok (.dup2, 1) := by decide +kernel
theorem d_Search_siftPlaces_258 : decode b_Search_siftPlaces 258 = .ok (.iaload, 1) := by decide +kernel
theorem d_Search_siftPlaces_259 : decode b_Search_siftPlaces 259 = .ok (.aload_n 0, 1) := by decide +kernel
theorem d_Search_siftPlaces_260 : decode b_Search_siftPlaces 260 = .ok (.iload 10, 2) := by decide +kernel
theorem d_Search_siftPlaces_262 : decode b_Search_siftPlaces 262 = .ok (.invokevirtual 133, 3) := by decide +kernel
theorem d_Search_siftPlaces_265 : decode b_Search_siftPlaces 265 = .ok (.iadd, 1) := by decide +kernel
theorem d_Search_siftPlaces_266 : decode b_Search_siftPlaces 266 = .ok (.iastore, 1) := by decide +kernel
theorem d_Search_siftPlaces_267 : decode b_Search_siftPlaces 267 = .ok (.aload_n 0, 1) := by decide +kernel
theorem d_Search_siftPlaces_268 : decode b_Search_siftPlaces 268 = .ok (.getfield 25, 3) := by decide +kernel
theorem d_Search_siftPlaces_271 : decode b_Search_siftPlaces 271 = .ok (.iload 10, 2) := by decide +kernel
theorem d_Search_siftPlaces_273 : decode b_Search_siftPlaces 273 = .ok (.iaload, 1) := by decide +kernel
theorem d_Search_siftPlaces_274 : decode b_Search_siftPlaces 274 = .ok (.aload_n 0, 1) := by decide +kernel
theorem d_Search_siftPlaces_275 : decode b_Search_siftPlaces 275 = .ok (.iload 10, 2) := by decide +kernel
theorem d_Search_siftPlaces_277 : decode b_Search_siftPlaces 277 = .ok (.invokevirtual 136, 3) := by decide +kernel
theorem d_Search_siftPlaces_280 : decode b_Search_siftPlaces 280 = .ok (.iadd, 1) := by decide +kernel
theorem d_Search_siftPlaces_281 : decode b_Search_siftPlaces 281 = .ok (.aload_n 0, 1) := by decide +kernel
theorem d_Search_siftPlaces_282 : decode b_Search_siftPlaces 282 = .ok (.iload 10, 2) := by decide +kernel
theorem d_Search_siftPlaces_284 : decode b_Search_siftPlaces 284 = .ok (.iconst 3, 1) := by decide +kernel
theorem d_Search_siftPlaces_285 : decode b_Search_siftPlaces 285 = .ok (.iadd, 1) := by decide +kernel
theorem d_Search_siftPlaces_286 : decode b_Search_siftPlaces 286 = .ok (.iconst 3, 1) := by decide +kernel
theorem d_Search_siftPlaces_287 : decode b_Search_siftPlaces 287 = .ok (.iand, 1) := by decide +kernel
theorem d_Search_siftPlaces_288 : decode b_Search_siftPlaces 288 = .ok (.invokevirtual 136, 3) := by decide +kernel
theorem d_Search_siftPlaces_291 : decode b_Search_siftPlaces 291 = .ok (.iadd, 1) := by decide +kernel
theorem d_Search_siftPlaces_292 : decode b_Search_siftPlaces 292 = .ok (.aload_n 0, 1) := by decide +kernel
theorem d_Search_siftPlaces_293 : decode b_Search_siftPlaces 293 = .ok (.getfield 37, 3) := by decide +kernel
theorem d_Search_siftPlaces_296 : decode b_Search_siftPlaces 296 = .ok (.if_icmp .le 14, 3) := by decide +kernel
theorem d_Search_siftPlaces_299 : decode b_Search_siftPlaces 299 = .ok (.iload 9, 2) := by decide +kernel
theorem d_Search_siftPlaces_301 : decode b_Search_siftPlaces 301 = .ok (.iconst 1, 1) := by decide +kernel
theorem d_Search_siftPlaces_302 : decode b_Search_siftPlaces 302 = .ok (.iload 10, 2) := by decide +kernel
theorem d_Search_siftPlaces_304 : decode b_Search_siftPlaces 304 = .ok (.ishl, 1) := by decide +kernel
theorem d_Search_siftPlaces_305 : decode b_Search_siftPlaces 305 = .ok (.iconst (-1), 1) := by decide +kernel
theorem d_Search_siftPlaces_306 : decode b_Search_siftPlaces 306 = .ok (.ixor, 1) := by decide +kernel
theorem d_Search_siftPlaces_307 : decode b_Search_siftPlaces 307 = .ok (.iand, 1) := by decide +kernel
theorem d_Search_siftPlaces_308 : decode b_Search_siftPlaces 308 = .ok (.istore 9, 2) := by decide +kernel
theorem d_Search_siftPlaces_310 : decode b_Search_siftPlaces 310 = .ok (.iinc 10 1, 3) := by decide +kernel
theorem d_Search_siftPlaces_313 : decode b_Search_siftPlaces 313 = .ok (.goto (-78), 3) := by decide +kernel
theorem d_Search_siftPlaces_316 : decode b_Search_siftPlaces 316 = .ok (.iload 9, 2) := by decide +kernel
theorem d_Search_siftPlaces_318 : decode b_Search_siftPlaces 318 = .ok (.ifCond .ne 4, 3) := by decide +kernel
theorem d_Search_siftPlaces_321 : decode b_Search_siftPlaces 321 = .ok (.return_, 1) := by decide +kernel
theorem d_Search_siftPlaces_322 : decode b_Search_siftPlaces 322 = .ok (.iload 8, 2) := by decide +kernel
theorem d_Search_siftPlaces_324 : decode b_Search_siftPlaces 324 = .ok (.ifCond .eq 10, 3) := by decide +kernel
theorem d_Search_siftPlaces_327 : decode b_Search_siftPlaces 327 = .ok (.aload_n 0, 1) := by decide +kernel
theorem d_Search_siftPlaces_328 : decode b_Search_siftPlaces 328 = .ok (.iload 9, 2) := by decide +kernel
theorem d_Search_siftPlaces_330 : decode b_Search_siftPlaces 330 = .ok (.invokevirtual 139, 3) := by decide +kernel
theorem d_Search_siftPlaces_333 : decode b_Search_siftPlaces 333 = .ok (.return_, 1) := by decide +kernel
theorem d_Search_siftPlaces_334 : decode b_Search_siftPlaces 334 = .ok (.iload_n 3, 1) := by decide +kernel
theorem d_Search_siftPlaces_335 : decode b_Search_siftPlaces 335 = .ok (.iload 5, 2) := by decide +kernel
theorem d_Search_siftPlaces_337 : decode b_Search_siftPlaces 337 = .ok (.iadd, 1) := by decide +kernel
theorem d_Search_siftPlaces_338 : decode b_Search_siftPlaces 338 = .ok (.iconst 2, 1) := by decide +kernel
theorem d_Search_siftPlaces_339 : decode b_Search_siftPlaces 339 = .ok (.idiv, 1) := by decide +kernel
theorem d_Search_siftPlaces_340 : decode b_Search_siftPlaces 340 = .ok (.istore 10, 2) := by decide +kernel
theorem d_Search_siftPlaces_342 : decode b_Search_siftPlaces 342 = .ok (.iload 4, 2) := by decide +kernel
theorem d_Search_siftPlaces_344 : decode b_Search_siftPlaces 344 = .ok (.iload 6, 2) := by decide +kernel
theorem d_Search_siftPlaces_346 : decode b_Search_siftPlaces 346 = .ok (.iadd, 1) := by decide +kernel
theorem d_Search_siftPlaces_347 : decode b_Search_siftPlaces 347 = .ok (.iconst 2, 1) := by decide +kernel
theorem d_Search_siftPlaces_348 : decode b_Search_siftPlaces 348 = .ok (.idiv, 1) := by decide +kernel
theorem d_Search_siftPlaces_349 : decode b_Search_siftPlaces 349 = .ok (.istore 11, 2) := by decide +kernel
theorem d_Search_siftPlaces_351 : decode b_Search_siftPlaces 351 = .ok (.aload_n 0, 1) := by decide +kernel
theorem d_Search_siftPlaces_352 : decode b_Search_siftPlaces 352 = .ok (.iload_n 1, 1) := by decide +kernel
theorem d_Search_siftPlaces_353 : decode b_Search_siftPlaces 353 = .ok (.iload 9, 2) := by decide +kernel
theorem d_Search_siftPlaces_355 : decode b_Search_siftPlaces 355 = .ok (.iload_n 3, 1) := by decide +kernel
theorem d_Search_siftPlaces_356 : decode b_Search_siftPlaces 356 = .ok (.iload 4, 2) := by decide +kernel
theorem d_Search_siftPlaces_358 : decode b_Search_siftPlaces 358 = .ok (.iload 10, 2) := by decide +kernel
theorem d_Search_siftPlaces_360 : decode b_Search_siftPlaces 360 = .ok (.iload 11, 2) := by decide +kernel
theorem d_Search_siftPlaces_362 : decode b_Search_siftPlaces 362 = .ok (.iload 7, 2) := by decide +kernel
theorem d_Search_siftPlaces_364 : decode b_Search_siftPlaces 364 = .ok (.iconst 1, 1) := by decide +kernel
theorem d_Search_siftPlaces_365 : decode b_Search_siftPlaces 365 = .ok (.iadd, 1) := by decide +kernel
theorem d_Search_siftPlaces_366 : decode b_Search_siftPlaces 366 = .ok (.invokevirtual 111, 3) := by decide +kernel
theorem d_Search_siftPlaces_369 : decode b_Search_siftPlaces 369 = .ok (.aload_n 0, 1) := by decide +kernel
theorem d_Search_siftPlaces_370 : decode b_Search_siftPlaces 370 = .ok (.iload_n 1, 1) := by decide +kernel
theorem d_Search_siftPlaces_371 : decode b_Search_siftPlaces 371 = .ok (.iload 9, 2) := by decide +kernel
theorem d_Search_siftPlaces_373 : decode b_Search_siftPlaces 373 = .ok (.iload 10, 2) := by decide +kernel
theorem d_Search_siftPlaces_375 : decode b_Search_siftPlaces 375 = .ok (.iconst 1, 1) := by decide +kernel
theorem d_Search_siftPlaces_376 : decode b_Search_siftPlaces 376 = .ok (.iadd, 1) := by decide +kernel
theorem d_Search_siftPlaces_377 : decode b_Search_siftPlaces 377 = .ok (.iload 4, 2) := by decide +kernel
theorem d_Search_siftPlaces_379 : decode b_Search_siftPlaces 379 = .ok (.iload 5, 2) := by decide +kernel
theorem d_Search_siftPlaces_381 : decode b_Search_siftPlaces 381 = .ok (.iload 11, 2) := by decide +kernel
theorem d_Search_siftPlaces_383 : decode b_Search_siftPlaces 383 = .ok (.iload 7, 2) := by decide +kernel
theorem d_Search_siftPlaces_385 : decode b_Search_siftPlaces 385 = .ok (.iconst 1, 1) := by decide +kernel
theorem d_Search_siftPlaces_386 : decode b_Search_siftPlaces 386 = .ok (.iadd, 1) := by decide +kernel
theorem d_Search_siftPlaces_387 : decode b_Search_siftPlaces 387 = .ok (.invokevirtual 111, 3) := by decide +kernel
theorem d_Search_siftPlaces_390 : decode b_Search_siftPlaces 390 = .ok (.aload_n 0, 1) := by decide +kernel
theorem d_Search_siftPlaces_391 : decode b_Search_siftPlaces 391 = .ok (.iload_n 1, 1) := by decide +kernel
theorem d_Search_siftPlaces_392 : decode b_Search_siftPlaces 392 = .ok (.iload 9, 2) := by decide +kernel
theorem d_Search_siftPlaces_394 : decode b_Search_siftPlaces 394 = .ok (.iload_n 3, 1) := by decide +kernel
theorem d_Search_siftPlaces_395 : decode b_Search_siftPlaces 395 = .ok (.iload 11, 2) := by decide +kernel
theorem d_Search_siftPlaces_397 : decode b_Search_siftPlaces 397 = .ok (.iconst 1, 1) := by decide +kernel
theorem d_Search_siftPlaces_398 : decode b_Search_siftPlaces 398 = .ok (.iadd, 1) := by decide +kernel
theorem d_Search_siftPlaces_399 : decode b_Search_siftPlaces 399 = .ok (.iload 10, 2) := by decide +kernel
theorem d_Search_siftPlaces_401 : decode b_Search_siftPlaces 401 = .ok (.iload 6, 2) := by decide +kernel
theorem d_Search_siftPlaces_403 : decode b_Search_siftPlaces 403 = .ok (.iload 7, 2) := by decide +kernel
theorem d_Search_siftPlaces_405 : decode b_Search_siftPlaces 405 = .ok (.iconst 1, 1) := by decide +kernel
theorem d_Search_siftPlaces_406 : decode b_Search_siftPlaces 406 = .ok (.iadd, 1) := by decide +kernel
theorem d_Search_siftPlaces_407 : decode b_Search_siftPlaces 407 = .ok (.invokevirtual 111, 3) := by decide +kernel
theorem d_Search_siftPlaces_410 : decode b_Search_siftPlaces 410 = .ok (.aload_n 0, 1) := by decide +kernel
theorem d_Search_siftPlaces_411 : decode b_Search_siftPlaces 411 = .ok (.iload_n 1, 1) := by decide +kernel
theorem d_Search_siftPlaces_412 : decode b_Search_siftPlaces 412 = .ok (.iload 9, 2) := by decide +kernel
theorem d_Search_siftPlaces_414 : decode b_Search_siftPlaces 414 = .ok (.iload 10, 2) := by decide +kernel
theorem d_Search_siftPlaces_416 : decode b_Search_siftPlaces 416 = .ok (.iconst 1, 1) := by decide +kernel
theorem d_Search_siftPlaces_417 : decode b_Search_siftPlaces 417 = .ok (.iadd, 1) := by decide +kernel
theorem d_Search_siftPlaces_418 : decode b_Search_siftPlaces 418 = .ok (.iload 11, 2) := by decide +kernel
theorem d_Search_siftPlaces_420 : decode b_Search_siftPlaces 420 = .ok (.iconst 1, 1) := by decide +kernel
theorem d_Search_siftPlaces_421 : decode b_Search_siftPlaces 421 = .ok (.iadd, 1) := by decide +kernel
theorem d_Search_siftPlaces_422 : decode b_Search_siftPlaces 422 = .ok (.iload 5, 2) := by decide +kernel
theorem d_Search_siftPlaces_424 : decode b_Search_siftPlaces 424 = .ok (.iload 6, 2) := by decide +kernel
theorem d_Search_siftPlaces_426 : decode b_Search_siftPlaces 426 = .ok (.iload 7, 2) := by decide +kernel
theorem d_Search_siftPlaces_428 : decode b_Search_siftPlaces 428 = .ok (.iconst 1, 1) := by decide +kernel
theorem d_Search_siftPlaces_429 : decode b_Search_siftPlaces 429 = .ok (.iadd, 1) := by decide +kernel
theorem d_Search_siftPlaces_430 : decode b_Search_siftPlaces 430 = .ok (.invokevirtual 111, 3) := by decide +kernel
theorem d_Search_siftPlaces_433 : decode b_Search_siftPlaces 433 = .ok (.return_, 1) := by decide +kernel
theorem d_Search_withCorner_0 : decode b_Search_withCorner 0 = .ok (.iload_n 3, 1) := by decide +kernel
theorem d_Search_withCorner_1 : decode b_Search_withCorner 1 = .ok (.istore 4, 2) := by decide +kernel
theorem d_Search_withCorner_3 : decode b_Search_withCorner 3 = .ok (.iconst 3, 1) := by decide +kernel
theorem d_Search_withCorner_4 : decode b_Search_withCorner 4 = .ok (.istore 5, 2) := by decide +kernel
theorem d_Search_withCorner_6 : decode b_Search_withCorner 6 = .ok (.iload 5, 2) := by decide +kernel
theorem d_Search_withCorner_8 : decode b_Search_withCorner 8 = .ok (.iconst 5, 1) := by decide +kernel
theorem d_Search_withCorner_9 : decode b_Search_withCorner 9 = .ok (.if_icmp .gt 53, 3) := by decide +kernel
theorem d_Search_withCorner_12 : decode b_Search_withCorner 12 = .ok (.iload_n 1, 1) := by decide +kernel
theorem d_Search_withCorner_13 : decode b_Search_withCorner 13 = .ok (.iload 5, 2) := by decide +kernel
theorem d_Search_withCorner_15 : decode b_Search_withCorner 15 = .ok (.iadd, 1) := by decide +kernel
theorem d_Search_withCorner_16 : decode b_Search_withCorner 16 = .ok (.iconst 3, 1) := by decide +kernel
theorem d_Search_withCorner_17 : decode b_Search_withCorner 17 = .ok (.iand, 1) := by decide +kernel
theorem d_Search_withCorner_18 : decode b_Search_withCorner 18 = .ok (.istore 6, 2) := by decide +kernel
theorem d_Search_withCorner_20 : decode b_Search_withCorner 20 = .ok (.aload_n 0, 1) := by decide +kernel
theorem d_Search_withCorner_21 : decode b_Search_withCorner 21 = .ok (.getfield 25, 3) := by decide +kernel
theorem d_Search_withCorner_24 : decode b_Search_withCorner 24 = .ok (.iload 6, 2) := by decide +kernel
theorem d_Search_withCorner_26 : decode b_Search_withCorner 26 = .ok (.dup2, 1) := by decide +kernel
theorem d_Search_withCorner_27 : decode b_Search_withCorner 27 = .ok (.iaload, 1) := by decide +kernel
theorem d_Search_withCorner_28 : decode b_Search_withCorner 28 = .ok (.iload_n 2, 1) := by decide +kernel
theorem d_Search_withCorner_29 : decode b_Search_withCorner 29 = .ok (.iadd, 1) := by decide +kernel
theorem d_Search_withCorner_30 : decode b_Search_withCorner 30 = .ok (.iastore, 1) := by decide +kernel
theorem d_Search_withCorner_31 : decode b_Search_withCorner 31 = .ok (.aload_n 0, 1) := by decide +kernel
theorem d_Search_withCorner_32 : decode b_Search_withCorner 32 = .ok (.getfield 25, 3) := by decide +kernel
theorem d_Search_withCorner_35 : decode b_Search_withCorner 35 = .ok (.iload 6, 2) := by decide +kernel
theorem d_Search_withCorner_37 : decode b_Search_withCorner 37 = .ok (.iaload, 1) := by decide +kernel
theorem d_Search_withCorner_38 : decode b_Search_withCorner 38 = .ok (.aload_n 0, 1) := by decide +kernel
theorem d_Search_withCorner_39 : decode b_Search_withCorner 39 = .ok (.getfield 37, 3) := by decide +kernel
theorem d_Search_withCorner_42 : decode b_Search_withCorner 42 = .ok (.if_icmp .le 14, 3) := by decide +kernel
theorem d_Search_withCorner_45 : decode b_Search_withCorner 45 = .ok (.iload 4, 2) := by decide +kernel
theorem d_Search_withCorner_47 : decode b_Search_withCorner 47 = .ok (.iconst 1, 1) := by decide +kernel
theorem d_Search_withCorner_48 : decode b_Search_withCorner 48 = .ok (.iload 6, 2) := by decide +kernel
theorem d_Search_withCorner_50 : decode b_Search_withCorner 50 = .ok (.ishl, 1) := by decide +kernel
theorem d_Search_withCorner_51 : decode b_Search_withCorner 51 = .ok (.iconst (-1), 1) := by decide +kernel
theorem d_Search_withCorner_52 : decode b_Search_withCorner 52 = .ok (.ixor, 1) := by decide +kernel
theorem d_Search_withCorner_53 : decode b_Search_withCorner 53 = .ok (.iand, 1) := by decide +kernel
theorem d_Search_withCorner_54 : decode b_Search_withCorner 54 = .ok (.istore 4, 2) := by decide +kernel
theorem d_Search_withCorner_56 : decode b_Search_withCorner 56 = .ok (.iinc 5 1, 3) := by decide +kernel
theorem d_Search_withCorner_59 : decode b_Search_withCorner 59 = .ok (.goto (-53), 3) := by decide +kernel
theorem d_Search_withCorner_62 : decode b_Search_withCorner 62 = .ok (.iload 4, 2) := by decide +kernel
theorem d_Search_withCorner_64 : decode b_Search_withCorner 64 = .ok (.ireturn, 1) := by decide +kernel
theorem d_Search_judge_0 : decode b_Search_judge 0 = .ok (.aload_n 0, 1) := by decide +kernel
theorem d_Search_judge_1 : decode b_Search_judge 1 = .ok (.getfield 98, 3) := by decide +kernel
theorem d_Search_judge_4 : decode b_Search_judge 4 = .ok (.bipush 17, 2) := by decide +kernel
theorem d_Search_judge_6 : decode b_Search_judge 6 = .ok (.isub, 1) := by decide +kernel
theorem d_Search_judge_7 : decode b_Search_judge 7 = .ok (.iconst 4, 1) := by decide +kernel
theorem d_Search_judge_8 : decode b_Search_judge 8 = .ok (.idiv, 1) := by decide +kernel
theorem d_Search_judge_9 : decode b_Search_judge 9 = .ok (.istore_n 2, 1) := by decide +kernel
theorem d_Search_judge_10 : decode b_Search_judge 10 = .ok (.iconst 0, 1) := by decide +kernel
theorem d_Search_judge_11 : decode b_Search_judge 11 = .ok (.istore_n 3, 1) := by decide +kernel
theorem d_Search_judge_12 : decode b_Search_judge 12 = .ok (.iload_n 3, 1) := by decide +kernel
theorem d_Search_judge_13 : decode b_Search_judge 13 = .ok (.iconst 4, 1) := by decide +kernel
theorem d_Search_judge_14 : decode b_Search_judge 14 = .ok (.if_icmp .ge 93, 3) := by decide +kernel
theorem d_Search_judge_17 : decode b_Search_judge 17 = .ok (.iload_n 1, 1) := by decide +kernel
theorem d_Search_judge_18 : decode b_Search_judge 18 = .ok (.iload_n 3, 1) := by decide +kernel
theorem d_Search_judge_19 : decode b_Search_judge 19 = .ok (.ishr, 1) := by decide +kernel
theorem d_Search_judge_20 : decode b_Search_judge 20 = .ok (.iconst 1, 1) := by decide +kernel
theorem d_Search_judge_21 : decode b_Search_judge 21 = .ok (.iand, 1) := by decide +kernel
theorem d_Search_judge_22 : decode b_Search_judge 22 = .ok (.ifCond .eq 79, 3) := by decide +kernel
theorem d_Search_judge_25 : decode b_Search_judge 25 = .ok (.aload_n 0, 1) := by decide +kernel
theorem d_Search_judge_26 : decode b_Search_judge 26 = .ok (.iload_n 3, 1) := by decide +kernel
theorem d_Search_judge_27 : decode b_Search_judge 27 = .ok (.iconst 3, 1) := by decide +kernel
theorem d_Search_judge_28 : decode b_Search_judge 28 = .ok (.iadd, 1) := by decide +kernel
theorem d_Search_judge_29 : decode b_Search_judge 29 = .ok (.iconst 3, 1) := by decide +kernel
theorem d_Search_judge_30 : decode b_Search_judge 30 = .ok (.iand, 1) := by decide +kernel
theorem d_Search_judge_31 : decode b_Search_judge 31 = .ok (.aload_n 0, 1) := by decide +kernel
theorem d_Search_judge_32 : decode b_Search_judge 32 = .ok (.iload_n 3, 1) := by decide +kernel
theorem d_Search_judge_33 : decode b_Search_judge 33 = .ok (.aload_n 0, 1) := by decide +kernel
theorem d_Search_judge_34 : decode b_Search_judge 34 = .ok (.getfield 25, 3) := by decide +kernel
theorem d_Search_judge_37 : decode b_Search_judge 37 = .ok (.iload_n 3, 1) := by decide +kernel
theorem d_Search_judge_38 : decode b_Search_judge 38 = .ok (.iaload, 1) := by decide +kernel
theorem d_Search_judge_39 : decode b_Search_judge 39 = .ok (.invokevirtual 143, 3) := by decide +kernel
theorem d_Search_judge_42 : decode b_Search_judge 42 = .ok (.invokevirtual 143, 3) := by decide +kernel
theorem d_Search_judge_45 : decode b_Search_judge 45 = .ok (.istore 4, 2) := by decide +kernel
theorem d_Search_judge_47 : decode b_Search_judge 47 = .ok (.aload_n 0, 1) := by decide +kernel
theorem d_Search_judge_48 : decode b_Search_judge 48 = .ok (.getfield 146, 3) := by decide +kernel
theorem d_Search_judge_51 : decode b_Search_judge 51 = .ok (.aload_n 0, 1) := by decide +kernel
theorem d_Search_judge_52 : decode b_Search_judge 52 = .ok (.getfield 149, 3) := by decide +kernel
theorem d_Search_judge_55 : decode b_Search_judge 55 = .ok (.aload_n 0, 1) := by decide +kernel
theorem d_Search_judge_56 : decode b_Search_judge 56 = .ok (.getfield 66, 3) := by decide +kernel
theorem d_Search_judge_59 : decode b_Search_judge 59 = .ok (.bipush 8, 2) := by decide +kernel
theorem d_Search_judge_61 : decode b_Search_judge 61 = .ok (.ishl, 1) := by decide +kernel
theorem d_Search_judge_62 : decode b_Search_judge 62 = .ok (.iload_n 2, 1) := by decide +kernel
theorem d_Search_judge_63 : decode b_Search_judge 63 = .ok (.iconst 2, 1) := by decide +kernel
theorem d_Search_judge_64 : decode b_Search_judge 64 = .ok (.ishl, 1) := by decide +kernel
theorem d_Search_judge_65 : decode b_Search_judge 65 = .ok (.ior, 1) := by decide +kernel
theorem d_Search_judge_66 : decode b_Search_judge 66 = .ok (.iload_n 3, 1) := by decide +kernel
theorem d_Search_judge_67 : decode b_Search_judge 67 = .ok (.ior, 1) := by decide +kernel
theorem d_Search_judge_68 : decode b_Search_judge 68 = .ok (.invokestatic 152, 3) := by decide +kernel
theorem d_Search_judge_71 : decode b_Search_judge 71 = .ok (.istore 5, 2) := by decide +kernel
theorem d_Search_judge_73 : decode b_Search_judge 73 = .ok (.iload 4, 2) := by decide +kernel
theorem d_Search_judge_75 : decode b_Search_judge 75 = .ok (.aload_n 0, 1) := by decide +kernel
theorem d_Search_judge_76 : decode b_Search_judge 76 = .ok (.getfield 37, 3) := by decide +kernel
theorem d_Search_judge_79 : decode b_Search_judge 79 = .ok (.if_icmp .gt 22, 3) := by decide +kernel
theorem d_Search_judge_82 : decode b_Search_judge 82 = .ok (.aload_n 0, 1) := by decide +kernel
theorem d_Search_judge_83 : decode b_Search_judge 83 = .ok (.getfield 21, 3) := by decide +kernel
theorem d_Search_judge_86 : decode b_Search_judge 86 = .ok (.iload 5, 2) := by decide +kernel
theorem d_Search_judge_88 : decode b_Search_judge 88 = .ok (.iload 4, 2) := by decide +kernel
theorem d_Search_judge_90 : decode b_Search_judge 90 = .ok (.invokevirtual 155, 3) := by decide +kernel
theorem d_Search_judge_93 : decode b_Search_judge 93 = .ok (.ifCond .ne 8, 3) := by decide +kernel
theorem d_Search_judge_96 : decode b_Search_judge 96 = .ok (.aload_n 0, 1) := by decide +kernel
theorem d_Search_judge_97 : decode b_Search_judge 97 = .ok (.iconst 1, 1) := by decide +kernel
theorem d_Search_judge_98 : decode b_Search_judge 98 = .ok (.putfield 44, 3) := by decide +kernel
theorem d_Search_judge_101 : decode b_Search_judge 101 = .ok (.iinc 3 1, 3) := by decide +kernel
theorem d_Search_judge_104 : decode b_Search_judge 104 = .ok (.goto (-92), 3) := by decide +kernel
theorem d_Search_judge_107 : decode b_Search_judge 107 = .ok (.return_, 1) := by decide +kernel
theorem d_Search_takeTile_0 : decode b_Search_takeTile 0 = .ok (.aload_n 0, 1) := by decide +kernel
theorem d_Search_takeTile_1 : decode b_Search_takeTile 1 = .ok (.iload_n 1, 1) := by decide +kernel
theorem d_Search_takeTile_2 : decode b_Search_takeTile 2 = .ok (.putfield 146, 3) := by decide +kernel
theorem d_Search_takeTile_5 : decode b_Search_takeTile 5 = .ok (.aload_n 0, 1) := by decide +kernel
theorem d_Search_takeTile_6 : decode b_Search_takeTile 6 = .ok (.iload_n 2, 1) := by decide +kernel
theorem d_Search_takeTile_7 : decode b_Search_takeTile 7 = .ok (.putfield 149, 3) := by decide +kernel
theorem d_Search_takeTile_10 : decode b_Search_takeTile 10 = .ok (.aload_n 0, 1) := by decide +kernel
theorem d_Search_takeTile_11 : decode b_Search_takeTile 11 = .ok (.iload_n 3, 1) := by decide +kernel
theorem d_Search_takeTile_12 : decode b_Search_takeTile 12 = .ok (.iload_n 1, 1) := by decide +kernel
theorem d_Search_takeTile_13 : decode b_Search_takeTile 13 = .ok (.isub, 1) := by decide +kernel
theorem d_Search_takeTile_14 : decode b_Search_takeTile 14 = .ok (.putfield 159, 3) := by decide +kernel
theorem d_Search_takeTile_17 : decode b_Search_takeTile 17 = .ok (.aload_n 0, 1) := by decide +kernel
theorem d_Search_takeTile_18 : decode b_Search_takeTile 18 = .ok (.iload 4, 2) := by decide +kernel
theorem d_Search_takeTile_20 : decode b_Search_takeTile 20 = .ok (.iload_n 2, 1) := by decide +kernel
theorem d_Search_takeTile_21 : decode b_Search_takeTile 21 = .ok (.isub, 1) := by decide +kernel
theorem d_Search_takeTile_22 : decode b_Search_takeTile 22 = .ok (.putfield 162, 3) := by decide +kernel
theorem d_Search_takeTile_25 : decode b_Search_takeTile 25 = .ok (.return_, 1) := by decide +kernel
theorem d_Search_isSingle_0 : decode b_Search_isSingle 0 = .ok (.aload_n 0, 1) := by decide +kernel
theorem d_Search_isSingle_1 : decode b_Search_isSingle 1 = .ok (.getfield 159, 3) := by decide +kernel
theorem d_Search_isSingle_4 : decode b_Search_isSingle 4 = .ok (.ifCond .ne 14, 3) := by decide +kernel
theorem d_Search_isSingle_7 : decode b_Search_isSingle 7 = .ok (.aload_n 0, 1) := by decide +kernel
theorem d_Search_isSingle_8 : decode b_Search_isSingle 8 = .ok (.getfield 162, 3) := by decide +kernel
theorem d_Search_isSingle_11 : decode b_Search_isSingle 11 = .ok (.ifCond .ne 7, 3) := by decide +kernel
theorem d_Search_isSingle_14 : decode b_Search_isSingle 14 = .ok (.iconst 1, 1) := by decide +kernel
theorem d_Search_isSingle_15 : decode b_Search_isSingle 15 = .ok (.goto 4, 3) := by decide +kernel
theorem d_Search_isSingle_18 : decode b_Search_isSingle 18 = .ok (.iconst 0, 1) := by decide +kernel
theorem d_Search_isSingle_19 : decode b_Search_isSingle 19 = .ok (.ireturn, 1) := by decide +kernel
theorem d_Search_isAlike_0 : decode b_Search_isAlike 0 = .ok (.iload_n 3, 1) := by decide +kernel
theorem d_Search_isAlike_1 : decode b_Search_isAlike 1 = .ok (.aload_n 0, 1) := by decide +kernel
theorem d_Search_isAlike_2 : decode b_Search_isAlike 2 = .ok (.getfield 159, 3) := by decide +kernel
theorem d_Search_isAlike_5 : decode b_Search_isAlike 5 = .ok (.iadd, 1) := by decide +kernel
theorem d_Search_isAlike_6 : decode b_Search_isAlike 6 = .ok (.istore 4, 2) := by decide +kernel
theorem d_Search_isAlike_8 : decode b_Search_isAlike 8 = .ok (.iload_n 3, 1) := by decide +kernel
theorem d_Search_isAlike_9 : decode b_Search_isAlike 9 = .ok (.aload_n 0, 1) := by decide +kernel
theorem d_Search_isAlike_10 : decode b_Search_isAlike 10 = .ok (.getfield 162, 3) := by decide +kernel
theorem d_Search_isAlike_13 : decode b_Search_isAlike 13 = .ok (.iadd, 1) := by decide +kernel
theorem d_Search_isAlike_14 : decode b_Search_isAlike 14 = .ok (.istore 5, 2) := by decide +kernel
theorem d_Search_isAlike_16 : decode b_Search_isAlike 16 = .ok (.aload_n 0, 1) := by decide +kernel
theorem d_Search_isAlike_17 : decode b_Search_isAlike 17 = .ok (.getfield 12, 3) := by decide +kernel
theorem d_Search_isAlike_20 : decode b_Search_isAlike 20 = .ok (.iload_n 1, 1) := by decide +kernel
theorem d_Search_isAlike_21 : decode b_Search_isAlike 21 = .ok (.iload_n 2, 1) := by decide +kernel
theorem d_Search_isAlike_22 : decode b_Search_isAlike 22 = .ok (.iload 4, 2) := by decide +kernel
theorem d_Search_isAlike_24 : decode b_Search_isAlike 24 = .ok (.iload 5, 2) := by decide +kernel
theorem d_Search_isAlike_26 : decode b_Search_isAlike 26 = .ok (.invokevirtual 165, 3) := by decide +kernel
theorem d_Search_isAlike_29 : decode b_Search_isAlike 29 = .ok (.istore 6, 2) := by decide +kernel
theorem d_Search_isAlike_31 : decode b_Search_isAlike 31 = .ok (.iload 6, 2) := by decide +kernel
theorem d_Search_isAlike_33 : decode b_Search_isAlike 33 = .ok (.ifCond .eq 13, 3) := by decide +kernel
theorem d_Search_isAlike_36 : decode b_Search_isAlike 36 = .ok (.iload 6, 2) := by decide +kernel
theorem d_Search_isAlike_38 : decode b_Search_isAlike 38 = .ok (.iload 4, 2) := by decide +kernel
theorem d_Search_isAlike_40 : decode b_Search_isAlike 40 = .ok (.iload 5, 2) := by decide +kernel
theorem d_Search_isAlike_42 : decode b_Search_isAlike 42 = .ok (.imul, 1) := by decide +kernel
theorem d_Search_isAlike_43 : decode b_Search_isAlike 43 = .ok (.if_icmp .ne 7, 3) := by decide +kernel
theorem d_Search_isAlike_46 : decode b_Search_isAlike 46 = .ok (.iconst 1, 1) := by decide +kernel
theorem d_Search_isAlike_47 : decode b_Search_isAlike 47 = .ok (.goto 4, 3) := by decide +kernel
theorem d_Search_isAlike_50 : decode b_Search_isAlike 50 = .ok (.iconst 0, 1) := by decide +kernel
theorem d_Search_isAlike_51 : decode b_Search_isAlike 51 = .ok (.ireturn, 1) := by decide +kernel
theorem d_Search_isRight_0 : decode b_Search_isRight 0 = .ok (.iload_n 0, 1) := by decide +kernel
theorem d_Search_isRight_1 : decode b_Search_isRight 1 = .ok (.iconst 1, 1) := by decide +kernel
theorem d_Search_isRight_2 : decode b_Search_isRight 2 = .ok (.if_icmp .eq 8, 3) := by decide +kernel
theorem d_Search_isRight_5 : decode b_Search_isRight 5 = .ok (.iload_n 0, 1) := by decide +kernel
theorem d_Search_isRight_6 : decode b_Search_isRight 6 = .ok (.iconst 2, 1) := by decide +kernel
theorem d_Search_isRight_7 : decode b_Search_isRight 7 = .ok (.if_icmp .ne 7, 3) := by decide +kernel
theorem d_Search_isRight_10 : decode b_Search_isRight 10 = .ok (.iconst 1, 1) := by decide +kernel
theorem d_Search_isRight_11 : decode b_Search_isRight 11 = .ok (.goto 4, 3) := by decide +kernel
theorem d_Search_isRight_14 : decode b_Search_isRight 14 = .ok (.iconst 0, 1) := by decide +kernel
theorem d_Search_isRight_15 : decode b_Search_isRight 15 = .ok (.ireturn, 1) := by decide +kernel
theorem d_Search_isLow_0 : decode b_Search_isLow 0 = .ok (.iload_n 0, 1) := by decide +kernel
theorem d_Search_isLow_1 : decode b_Search_isLow 1 = .ok (.iconst 2, 1) := by decide +kernel
theorem d_Search_isLow_2 : decode b_Search_isLow 2 = .ok (.if_icmp .lt 7, 3) := by decide +kernel
theorem d_Search_isLow_5 : decode b_Search_isLow 5 = .ok (.iconst 1, 1) := by decide +kernel
theorem d_Search_isLow_6 : decode b_Search_isLow 6 = .ok (.goto 4, 3) := by decide +kernel
theorem d_Search_isLow_9 : decode b_Search_isLow 9 = .ok (.iconst 0, 1) := by decide +kernel
theorem d_Search_isLow_10 : decode b_Search_isLow 10 = .ok (.ireturn, 1) := by decide +kernel
theorem d_Search_finderX_0 : decode b_Search_finderX 0 = .ok (.aload_n 0, 1) := by decide +kernel
theorem d_Search_finderX_1 : decode b_Search_finderX 1 = .ok (.getfield 146, 3) := by decide +kernel
theorem d_Search_finderX_4 : decode b_Search_finderX 4 = .ok (.iload_n 1, 1) := by decide +kernel
theorem d_Search_finderX_5 : decode b_Search_finderX 5 = .ok (.invokestatic 101, 3) := by decide +kernel
theorem d_Search_finderX_8 : decode b_Search_finderX 8 = .ok (.ifCond .eq 18, 3) := by decide +kernel
theorem d_Search_finderX_11 : decode b_Search_finderX 11 = .ok (.aload_n 0, 1) := by decide +kernel
theorem d_Search_finderX_12 : decode b_Search_finderX 12 = .ok (.getfield 98, 3) := by decide +kernel
theorem d_Search_finderX_15 : decode b_Search_finderX 15 = .ok (.bipush 7, 2) := by decide +kernel
theorem d_Search_finderX_17 : decode b_Search_finderX 17 = .ok (.isub, 1) := by decide +kernel
theorem d_Search_finderX_18 : decode b_Search_finderX 18 = .ok (.aload_n 0, 1) := by decide +kernel
theorem d_Search_finderX_19 : decode b_Search_finderX 19 = .ok (.getfield 66, 3) := by decide +kernel
theorem d_Search_finderX_22 : decode b_Search_finderX 22 = .ok (.imul, 1) := by decide +kernel
theorem d_Search_finderX_23 : decode b_Search_finderX 23 = .ok (.goto 4, 3) := by decide +kernel
theorem d_Search_finderX_26 : decode b_Search_finderX 26 = .ok (.iconst 0, 1) := by decide +kernel
theorem d_Search_finderX_27 : decode b_Search_finderX 27 = .ok (.iadd, 1) := by decide +kernel
theorem d_Search_finderX_28 : decode b_Search_finderX 28 = .ok (.ireturn, 1) := by decide +kernel
theorem d_Search_finderY_0 : decode b_Search_finderY 0 = .ok (.aload_n 0, 1) := by decide +kernel
theorem d_Search_finderY_1 : decode b_Search_finderY 1 = .ok (.getfield 149, 3) := by decide +kernel
theorem d_Search_finderY_4 : decode b_Search_finderY 4 = .ok (.iload_n 1, 1) := by decide +kernel
theorem d_Search_finderY_5 : decode b_Search_finderY 5 = .ok (.invokestatic 105, 3) := by decide +kernel
theorem d_Search_finderY_8 : decode b_Search_finderY 8 = .ok (.ifCond .eq 18, 3) := by decide +kernel
theorem d_Search_finderY_11 : decode b_Search_finderY 11 = .ok (.aload_n 0, 1) := by decide +kernel
theorem d_Search_finderY_12 : decode b_Search_finderY 12 = .ok (.getfield 98, 3) := by decide +kernel
theorem d_Search_finderY_15 : decode b_Search_finderY 15 = .ok (.bipush 7, 2) := by decide +kernel
theorem d_Search_finderY_17 : decode b_Search_finderY 17 = .ok (.isub, 1) := by decide +kernel
theorem d_Search_finderY_18 : decode b_Search_finderY 18 = .ok (.aload_n 0, 1) := by decide +kernel
theorem d_Search_finderY_19 : decode b_Search_finderY 19 = .ok (.getfield 66, 3) := by decide +kernel
theorem d_Search_finderY_22 : decode b_Search_finderY 22 = .ok (.imul, 1) := by decide +kernel
theorem d_Search_finderY_23 : decode b_Search_finderY 23 = .ok (.goto 4, 3) := by decide +kernel
theorem d_Search_finderY_26 : decode b_Search_finderY 26 = .ok (.iconst 0, 1) := by decide +kernel
theorem d_Search_finderY_27 : decode b_Search_finderY 27 = .ok (.iadd, 1) := by decide +kernel
theorem d_Search_finderY_28 : decode b_Search_finderY 28 = .ok (.ireturn, 1) := by decide +kernel
theorem d_Search_cornerWrong_0 : decode b_Search_cornerWrong 0 = .ok (.aload_n 0, 1) := by decide +kernel
theorem d_Search_cornerWrong_1 : decode b_Search_cornerWrong 1 = .ok (.getfield 66, 3) := by decide +kernel
theorem d_Search_cornerWrong_4 : decode b_Search_cornerWrong 4 = .ok (.istore 4, 2) := by decide +kernel
theorem d_Search_cornerWrong_6 : decode b_Search_cornerWrong 6 = .ok (.iload_n 1, 1) := by decide +kernel
theorem d_Search_cornerWrong_7 : decode b_Search_cornerWrong 7 = .ok (.invokestatic 101, 3) := by decide +kernel
theorem d_Search_cornerWrong_10 : decode b_Search_cornerWrong 10 = .ok (.ifCond .eq 10, 3) := by decide +kernel
theorem d_Search_cornerWrong_13 : decode b_Search_cornerWrong 13 = .ok (.iload_n 2, 1) := by decide +kernel
theorem d_Search_cornerWrong_14 : decode b_Search_cornerWrong 14 = .ok (.iload 4, 2) := by decide +kernel
theorem d_Search_cornerWrong_16 : decode b_Search_cornerWrong 16 = .ok (.isub, 1) := by decide +kernel
theorem d_Search_cornerWrong_17 : decode b_Search_cornerWrong 17 = .ok (.goto 4, 3) := by decide +kernel
theorem d_Search_cornerWrong_20 : decode b_Search_cornerWrong 20 = .ok (.iload_n 2, 1) := by decide +kernel
theorem d_Search_cornerWrong_21 : decode b_Search_cornerWrong 21 = .ok (.istore 5, 2) := by decide +kernel
theorem d_Search_cornerWrong_23 : decode b_Search_cornerWrong 23 = .ok (.iload_n 1, 1) := by decide +kernel
theorem d_Search_cornerWrong_24 : decode b_Search_cornerWrong 24 = .ok (.invokestatic 105, 3) := by decide +kernel
theorem d_Search_cornerWrong_27 : decode b_Search_cornerWrong 27 = .ok (.ifCond .eq 10, 3) := by decide +kernel
theorem d_Search_cornerWrong_30 : decode b_Search_cornerWrong 30 = .ok (.iload_n 3, 1) := by decide +kernel
theorem d_Search_cornerWrong_31 : decode b_Search_cornerWrong 31 = .ok (.iload 4, 2) := by decide +kernel
theorem d_Search_cornerWrong_33 : decode b_Search_cornerWrong 33 = .ok (.isub, 1) := by decide +kernel
theorem d_Search_cornerWrong_34 : decode b_Search_cornerWrong 34 = .ok (.goto 4, 3) := by decide +kernel
theorem d_Search_cornerWrong_37 : decode b_Search_cornerWrong 37 = .ok (.iload_n 3, 1) := by decide +kernel
theorem d_Search_cornerWrong_38 : decode b_Search_cornerWrong 38 = .ok (.istore 6, 2) := by decide +kernel
theorem d_Search_cornerWrong_40 : decode b_Search_cornerWrong 40 = .ok (.iload 5, 2) := by decide +kernel
theorem d_Search_cornerWrong_42 : decode b_Search_cornerWrong 42 = .ok (.ifCond .lt 44, 3) := by decide +kernel
theorem d_Search_cornerWrong_45 : decode b_Search_cornerWrong 45 = .ok (.iload 6, 2) := by decide +kernel
theorem d_Search_cornerWrong_47 : decode b_Search_cornerWrong 47 = .ok (.ifCond .lt 39, 3) := by decide +kernel
theorem d_Search_cornerWrong_50 : decode b_Search_cornerWrong 50 = .ok (.iload 5, 2) := by decide +kernel
theorem d_Search_cornerWrong_52 : decode b_Search_cornerWrong 52 = .ok (.aload_n 0, 1) := by decide +kernel
theorem d_Search_cornerWrong_53 : decode b_Search_cornerWrong 53 = .ok (.getfield 12, 3) := by decide +kernel
theorem d_Search_cornerWrong_56 : decode b_Search_cornerWrong 56 = .ok (.getfield 48, 3) := by decide +kernel
theorem d_Search_cornerWrong_59 : decode b_Search_cornerWrong 59 = .ok (.bipush 8, 2) := by decide +kernel
theorem d_Search_cornerWrong_61 : decode b_Search_cornerWrong 61 = .ok (.iload 4, 2) := by decide +kernel
theorem d_Search_cornerWrong_63 : decode b_Search_cornerWrong 63 = .ok (.imul, 1) := by decide +kernel
theorem d_Search_cornerWrong_64 : decode b_Search_cornerWrong 64 = .ok (.isub, 1) := by decide +kernel
theorem d_Search_cornerWrong_65 : decode b_Search_cornerWrong 65 = .ok (.if_icmp .gt 21, 3) := by decide +kernel
end
section
theorem d_Search_cornerWrong_68 : decode b_Search_cornerWrong 68 = .ok (.iload 6, 2) := by decide +kernel
theorem d_Search_cornerWrong_70 : decode b_Search_cornerWrong 70 = .ok (.aload_n 0, 1) := by decide +kernel
theorem d_Search_cornerWrong_71 : decode b_Search_cornerWrong 71 = .ok (.getfield 12, 3) := by decide +kernel
theorem d_Search_cornerWrong_74 : decode b_Search_cornerWrong 74 = .ok (.getfield 51, 3) := by decide +kernel
theorem d_Search_cornerWrong_77 : decode b_Search_cornerWrong 77 = .ok (.bipush 8, 2) := by decide +kernel
theorem d_Search_cornerWrong_79 : decode b_Search_cornerWrong 79 = .ok (.iload 4, 2) := by decide +kernel
theorem d_Search_cornerWrong_81 : decode b_Search_cornerWrong 81 = .ok (.imul, 1) := by decide +kernel
theorem d_Search_cornerWrong_82 : decode b_Search_cornerWrong 82 = .ok (.isub, 1) := by decide +kernel
theorem d_Search_cornerWrong_83 : decode b_Search_cornerWrong 83 = .ok (.if_icmp .le 7, 3) := by decide +kernel
theorem d_Search_cornerWrong_86 : decode b_Search_cornerWrong 86 = .ok (.sipush 501, 3) := by decide +kernel
theorem d_Search_cornerWrong_89 : decode b_Search_cornerWrong 89 = .ok (.ireturn, 1) := by decide +kernel
theorem d_Search_cornerWrong_90 : decode b_Search_cornerWrong 90 = .ok (.iload_n 3, 1) := by decide +kernel
theorem d_Search_cornerWrong_91 : decode b_Search_cornerWrong 91 = .ok (.sipush 512, 3) := by decide +kernel
theorem d_Search_cornerWrong_94 : decode b_Search_cornerWrong 94 = .ok (.imul, 1) := by decide +kernel
theorem d_Search_cornerWrong_95 : decode b_Search_cornerWrong 95 = .ok (.iload_n 2, 1) := by decide +kernel
theorem d_Search_cornerWrong_96 : decode b_Search_cornerWrong 96 = .ok (.iadd, 1) := by decide +kernel
theorem d_Search_cornerWrong_97 : decode b_Search_cornerWrong 97 = .ok (.istore 7, 2) := by decide +kernel
theorem d_Search_cornerWrong_99 : decode b_Search_cornerWrong 99 = .ok (.bipush 10, 2) := by decide +kernel
theorem d_Search_cornerWrong_101 : decode b_Search_cornerWrong 101 = .ok (.iload_n 1, 1) := by decide +kernel
theorem d_Search_cornerWrong_102 : decode b_Search_cornerWrong 102 = .ok (.imul, 1) := by decide +kernel
theorem d_Search_cornerWrong_103 : decode b_Search_cornerWrong 103 = .ok (.istore 8, 2) := by decide +kernel
theorem d_Search_cornerWrong_105 : decode b_Search_cornerWrong 105 = .ok (.aload_n 0, 1) := by decide +kernel
theorem d_Search_cornerWrong_106 : decode b_Search_cornerWrong 106 = .ok (.getfield 30, 3) := by decide +kernel
theorem d_Search_cornerWrong_109 : decode b_Search_cornerWrong 109 = .ok (.iload 7, 2) := by decide +kernel
theorem d_Search_cornerWrong_111 : decode b_Search_cornerWrong 111 = .ok (.laload, 1) := by decide +kernel
theorem d_Search_cornerWrong_112 : decode b_Search_cornerWrong 112 = .ok (.bipush 40, 2) := by decide +kernel
theorem d_Search_cornerWrong_114 : decode b_Search_cornerWrong 114 = .ok (.lushr, 1) := by decide +kernel
theorem d_Search_cornerWrong_115 : decode b_Search_cornerWrong 115 = .ok (.aload_n 0, 1) := by decide +kernel
theorem d_Search_cornerWrong_116 : decode b_Search_cornerWrong 116 = .ok (.getfield 69, 3) := by decide +kernel
theorem d_Search_cornerWrong_119 : decode b_Search_cornerWrong 119 = .ok (.i2l, 1) := by decide +kernel
theorem d_Search_cornerWrong_120 : decode b_Search_cornerWrong 120 = .ok (.lcmp, 1) := by decide +kernel
theorem d_Search_cornerWrong_121 : decode b_Search_cornerWrong 121 = .ok (.ifCond .eq 18, 3) := by decide +kernel
theorem d_Search_cornerWrong_124 : decode b_Search_cornerWrong 124 = .ok (.aload_n 0, 1) := by decide +kernel
theorem d_Search_cornerWrong_125 : decode b_Search_cornerWrong 125 = .ok (.getfield 30, 3) := by decide +kernel
theorem d_Search_cornerWrong_128 : decode b_Search_cornerWrong 128 = .ok (.iload 7, 2) := by decide +kernel
theorem d_Search_cornerWrong_130 : decode b_Search_cornerWrong 130 = .ok (.aload_n 0, 1) := by decide +kernel
theorem d_Search_cornerWrong_131 : decode b_Search_cornerWrong 131 = .ok (.getfield 69, 3) := by decide +kernel
theorem d_Search_cornerWrong_134 : decode b_Search_cornerWrong 134 = .ok (.i2l, 1) := by decide +kernel
theorem d_Search_cornerWrong_135 : decode b_Search_cornerWrong 135 = .ok (.bipush 40, 2) := by decide +kernel
theorem d_Search_cornerWrong_137 : decode b_Search_cornerWrong 137 = .ok (.lshl, 1) := by decide +kernel
theorem d_Search_cornerWrong_138 : decode b_Search_cornerWrong 138 = .ok (.lastore, 1) := by decide +kernel
theorem d_Search_cornerWrong_139 : decode b_Search_cornerWrong 139 = .ok (.aload_n 0, 1) := by decide +kernel
theorem d_Search_cornerWrong_140 : decode b_Search_cornerWrong 140 = .ok (.getfield 30, 3) := by decide +kernel
theorem d_Search_cornerWrong_143 : decode b_Search_cornerWrong 143 = .ok (.iload 7, 2) := by decide +kernel
theorem d_Search_cornerWrong_145 : decode b_Search_cornerWrong 145 = .ok (.laload, 1) := by decide +kernel
theorem d_Search_cornerWrong_146 : decode b_Search_cornerWrong 146 = .ok (.iload 8, 2) := by decide +kernel
theorem d_Search_cornerWrong_148 : decode b_Search_cornerWrong 148 = .ok (.lushr, 1) := by decide +kernel
theorem d_Search_cornerWrong_149 : decode b_Search_cornerWrong 149 = .ok (.l2i, 1) := by decide +kernel
theorem d_Search_cornerWrong_150 : decode b_Search_cornerWrong 150 = .ok (.sipush 1023, 3) := by decide +kernel
theorem d_Search_cornerWrong_153 : decode b_Search_cornerWrong 153 = .ok (.iand, 1) := by decide +kernel
theorem d_Search_cornerWrong_154 : decode b_Search_cornerWrong 154 = .ok (.istore 9, 2) := by decide +kernel
theorem d_Search_cornerWrong_156 : decode b_Search_cornerWrong 156 = .ok (.iload 9, 2) := by decide +kernel
theorem d_Search_cornerWrong_158 : decode b_Search_cornerWrong 158 = .ok (.ifCond .eq 8, 3) := by decide +kernel
theorem d_Search_cornerWrong_161 : decode b_Search_cornerWrong 161 = .ok (.iload 9, 2) := by decide +kernel
theorem d_Search_cornerWrong_163 : decode b_Search_cornerWrong 163 = .ok (.iconst 1, 1) := by decide +kernel
theorem d_Search_cornerWrong_164 : decode b_Search_cornerWrong 164 = .ok (.isub, 1) := by decide +kernel
theorem d_Search_cornerWrong_165 : decode b_Search_cornerWrong 165 = .ok (.ireturn, 1) := by decide +kernel
theorem d_Search_cornerWrong_166 : decode b_Search_cornerWrong 166 = .ok (.bipush 33, 2) := by decide +kernel
theorem d_Search_cornerWrong_168 : decode b_Search_cornerWrong 168 = .ok (.iload 4, 2) := by decide +kernel
theorem d_Search_cornerWrong_170 : decode b_Search_cornerWrong 170 = .ok (.imul, 1) := by decide +kernel
theorem d_Search_cornerWrong_171 : decode b_Search_cornerWrong 171 = .ok (.iload 4, 2) := by decide +kernel
theorem d_Search_cornerWrong_173 : decode b_Search_cornerWrong 173 = .ok (.imul, 1) := by decide +kernel
theorem d_Search_cornerWrong_174 : decode b_Search_cornerWrong 174 = .ok (.aload_n 0, 1) := by decide +kernel
theorem d_Search_cornerWrong_175 : decode b_Search_cornerWrong 175 = .ok (.getfield 12, 3) := by decide +kernel
theorem d_Search_cornerWrong_178 : decode b_Search_cornerWrong 178 = .ok (.iload 5, 2) := by decide +kernel
theorem d_Search_cornerWrong_180 : decode b_Search_cornerWrong 180 = .ok (.iload 6, 2) := by decide +kernel
theorem d_Search_cornerWrong_182 : decode b_Search_cornerWrong 182 = .ok (.bipush 8, 2) := by decide +kernel
theorem d_Search_cornerWrong_184 : decode b_Search_cornerWrong 184 = .ok (.iload 4, 2) := by decide +kernel
theorem d_Search_cornerWrong_186 : decode b_Search_cornerWrong 186 = .ok (.imul, 1) := by decide +kernel
theorem d_Search_cornerWrong_187 : decode b_Search_cornerWrong 187 = .ok (.bipush 8, 2) := by decide +kernel
theorem d_Search_cornerWrong_189 : decode b_Search_cornerWrong 189 = .ok (.iload 4, 2) := by decide +kernel
theorem d_Search_cornerWrong_191 : decode b_Search_cornerWrong 191 = .ok (.imul, 1) := by decide +kernel
theorem d_Search_cornerWrong_192 : decode b_Search_cornerWrong 192 = .ok (.invokevirtual 165, 3) := by decide +kernel
theorem d_Search_cornerWrong_195 : decode b_Search_cornerWrong 195 = .ok (.iadd, 1) := by decide +kernel
theorem d_Search_cornerWrong_196 : decode b_Search_cornerWrong 196 = .ok (.iconst 2, 1) := by decide +kernel
theorem d_Search_cornerWrong_197 : decode b_Search_cornerWrong 197 = .ok (.aload_n 0, 1) := by decide +kernel
theorem d_Search_cornerWrong_198 : decode b_Search_cornerWrong 198 = .ok (.getfield 12, 3) := by decide +kernel
theorem d_Search_cornerWrong_201 : decode b_Search_cornerWrong 201 = .ok (.iload_n 2, 1) := by decide +kernel
theorem d_Search_cornerWrong_202 : decode b_Search_cornerWrong 202 = .ok (.iload_n 3, 1) := by decide +kernel
theorem d_Search_cornerWrong_203 : decode b_Search_cornerWrong 203 = .ok (.bipush 7, 2) := by decide +kernel
theorem d_Search_cornerWrong_205 : decode b_Search_cornerWrong 205 = .ok (.iload 4, 2) := by decide +kernel
theorem d_Search_cornerWrong_207 : decode b_Search_cornerWrong 207 = .ok (.imul, 1) := by decide +kernel
theorem d_Search_cornerWrong_208 : decode b_Search_cornerWrong 208 = .ok (.bipush 7, 2) := by decide +kernel
theorem d_Search_cornerWrong_210 : decode b_Search_cornerWrong 210 = .ok (.iload 4, 2) := by decide +kernel
theorem d_Search_cornerWrong_212 : decode b_Search_cornerWrong 212 = .ok (.imul, 1) := by decide +kernel
theorem d_Search_cornerWrong_213 : decode b_Search_cornerWrong 213 = .ok (.invokevirtual 165, 3) := by decide +kernel
theorem d_Search_cornerWrong_216 : decode b_Search_cornerWrong 216 = .ok (.imul, 1) := by decide +kernel
theorem d_Search_cornerWrong_217 : decode b_Search_cornerWrong 217 = .ok (.isub, 1) := by decide +kernel
theorem d_Search_cornerWrong_218 : decode b_Search_cornerWrong 218 = .ok (.iconst 2, 1) := by decide +kernel
theorem d_Search_cornerWrong_219 : decode b_Search_cornerWrong 219 = .ok (.aload_n 0, 1) := by decide +kernel
theorem d_Search_cornerWrong_220 : decode b_Search_cornerWrong 220 = .ok (.getfield 12, 3) := by decide +kernel
theorem d_Search_cornerWrong_223 : decode b_Search_cornerWrong 223 = .ok (.iload_n 2, 1) := by decide +kernel
theorem d_Search_cornerWrong_224 : decode b_Search_cornerWrong 224 = .ok (.iload 4, 2) := by decide +kernel
theorem d_Search_cornerWrong_226 : decode b_Search_cornerWrong 226 = .ok (.iadd, 1) := by decide +kernel
theorem d_Search_cornerWrong_227 : decode b_Search_cornerWrong 227 = .ok (.iload_n 3, 1) := by decide +kernel
theorem d_Search_cornerWrong_228 : decode b_Search_cornerWrong 228 = .ok (.iload 4, 2) := by decide +kernel
theorem d_Search_cornerWrong_230 : decode b_Search_cornerWrong 230 = .ok (.iadd, 1) := by decide +kernel
theorem d_Search_cornerWrong_231 : decode b_Search_cornerWrong 231 = .ok (.iconst 5, 1) := by decide +kernel
theorem d_Search_cornerWrong_232 : decode b_Search_cornerWrong 232 = .ok (.iload 4, 2) := by decide +kernel
theorem d_Search_cornerWrong_234 : decode b_Search_cornerWrong 234 = .ok (.imul, 1) := by decide +kernel
theorem d_Search_cornerWrong_235 : decode b_Search_cornerWrong 235 = .ok (.iconst 5, 1) := by decide +kernel
theorem d_Search_cornerWrong_236 : decode b_Search_cornerWrong 236 = .ok (.iload 4, 2) := by decide +kernel
theorem d_Search_cornerWrong_238 : decode b_Search_cornerWrong 238 = .ok (.imul, 1) := by decide +kernel
theorem d_Search_cornerWrong_239 : decode b_Search_cornerWrong 239 = .ok (.invokevirtual 165, 3) := by decide +kernel
theorem d_Search_cornerWrong_242 : decode b_Search_cornerWrong 242 = .ok (.imul, 1) := by decide +kernel
theorem d_Search_cornerWrong_243 : decode b_Search_cornerWrong 243 = .ok (.iadd, 1) := by decide +kernel
theorem d_Search_cornerWrong_244 : decode b_Search_cornerWrong 244 = .ok (.iconst 2, 1) := by decide +kernel
theorem d_Search_cornerWrong_245 : decode b_Search_cornerWrong 245 = .ok (.aload_n 0, 1) := by decide +kernel
theorem d_Search_cornerWrong_246 : decode b_Search_cornerWrong 246 = .ok (.getfield 12, 3) := by decide +kernel
theorem d_Search_cornerWrong_249 : decode b_Search_cornerWrong 249 = .ok (.iload_n 2, 1) := by decide +kernel
theorem d_Search_cornerWrong_250 : decode b_Search_cornerWrong 250 = .ok (.iconst 2, 1) := by decide +kernel
theorem d_Search_cornerWrong_251 : decode b_Search_cornerWrong 251 = .ok (.iload 4, 2) := by decide +kernel
theorem d_Search_cornerWrong_253 : decode b_Search_cornerWrong 253 = .ok (.imul, 1) := by decide +kernel
theorem d_Search_cornerWrong_254 : decode b_Search_cornerWrong 254 = .ok (.iadd, 1) := by decide +kernel
theorem d_Search_cornerWrong_255 : decode b_Search_cornerWrong 255 = .ok (.iload_n 3, 1) := by decide +kernel
theorem d_Search_cornerWrong_256 : decode b_Search_cornerWrong 256 = .ok (.iconst 2, 1) := by decide +kernel
theorem d_Search_cornerWrong_257 : decode b_Search_cornerWrong 257 = .ok (.iload 4, 2) := by decide +kernel
theorem d_Search_cornerWrong_259 : decode b_Search_cornerWrong 259 = .ok (.imul, 1) := by decide +kernel
theorem d_Search_cornerWrong_260 : decode b_Search_cornerWrong 260 = .ok (.iadd, 1) := by decide +kernel
theorem d_Search_cornerWrong_261 : decode b_Search_cornerWrong 261 = .ok (.iconst 3, 1) := by decide +kernel
theorem d_Search_cornerWrong_262 : decode b_Search_cornerWrong 262 = .ok (.iload 4, 2) := by decide +kernel
theorem d_Search_cornerWrong_264 : decode b_Search_cornerWrong 264 = .ok (.imul, 1) := by decide +kernel
theorem d_Search_cornerWrong_265 : decode b_Search_cornerWrong 265 = .ok (.iconst 3, 1) := by decide +kernel
theorem d_Search_cornerWrong_266 : decode b_Search_cornerWrong 266 = .ok (.iload 4, 2) := by decide +kernel
theorem d_Search_cornerWrong_268 : decode b_Search_cornerWrong 268 = .ok (.imul, 1) := by decide +kernel
theorem d_Search_cornerWrong_269 : decode b_Search_cornerWrong 269 = .ok (.invokevirtual 165, 3) := by decide +kernel
theorem d_Search_cornerWrong_272 : decode b_Search_cornerWrong 272 = .ok (.imul, 1) := by decide +kernel
theorem d_Search_cornerWrong_273 : decode b_Search_cornerWrong 273 = .ok (.isub, 1) := by decide +kernel
theorem d_Search_cornerWrong_274 : decode b_Search_cornerWrong 274 = .ok (.istore 10, 2) := by decide +kernel
theorem d_Search_cornerWrong_276 : decode b_Search_cornerWrong 276 = .ok (.iload 10, 2) := by decide +kernel
theorem d_Search_cornerWrong_278 : decode b_Search_cornerWrong 278 = .ok (.sipush 501, 3) := by decide +kernel
theorem d_Search_cornerWrong_281 : decode b_Search_cornerWrong 281 = .ok (.invokestatic 54, 3) := by decide +kernel
theorem d_Search_cornerWrong_284 : decode b_Search_cornerWrong 284 = .ok (.istore 10, 2) := by decide +kernel
theorem d_Search_cornerWrong_286 : decode b_Search_cornerWrong 286 = .ok (.aload_n 0, 1) := by decide +kernel
theorem d_Search_cornerWrong_287 : decode b_Search_cornerWrong 287 = .ok (.getfield 30, 3) := by decide +kernel
theorem d_Search_cornerWrong_290 : decode b_Search_cornerWrong 290 = .ok (.iload 7, 2) := by decide +kernel
theorem d_Search_cornerWrong_292 : decode b_Search_cornerWrong 292 = .ok (.dup2, 1) := by decide +kernel
theorem d_Search_cornerWrong_293 : decode b_Search_cornerWrong 293 = .ok (.laload, 1) := by decide +kernel
theorem d_Search_cornerWrong_294 : decode b_Search_cornerWrong 294 = .ok (.iload 10, 2) := by decide +kernel
theorem d_Search_cornerWrong_296 : decode b_Search_cornerWrong 296 = .ok (.iconst 1, 1) := by decide +kernel
theorem d_Search_cornerWrong_297 : decode b_Search_cornerWrong 297 = .ok (.iadd, 1) := by decide +kernel
theorem d_Search_cornerWrong_298 : decode b_Search_cornerWrong 298 = .ok (.i2l, 1) := by decide +kernel
theorem d_Search_cornerWrong_299 : decode b_Search_cornerWrong 299 = .ok (.iload 8, 2) := by decide +kernel
theorem d_Search_cornerWrong_301 : decode b_Search_cornerWrong 301 = .ok (.lshl, 1) := by decide +kernel
theorem d_Search_cornerWrong_302 : decode b_Search_cornerWrong 302 = .ok (.lor, 1) := by decide +kernel
theorem d_Search_cornerWrong_303 : decode b_Search_cornerWrong 303 = .ok (.lastore, 1) := by decide +kernel
theorem d_Search_cornerWrong_304 : decode b_Search_cornerWrong 304 = .ok (.iload 10, 2) := by decide +kernel
theorem d_Search_cornerWrong_306 : decode b_Search_cornerWrong 306 = .ok (.ireturn, 1) := by decide +kernel
theorem d_Search_finderFloor_0 : decode b_Search_finderFloor 0 = .ok (.aload_n 0, 1) := by decide +kernel
theorem d_Search_finderFloor_1 : decode b_Search_finderFloor 1 = .ok (.getfield 66, 3) := by decide +kernel
theorem d_Search_finderFloor_4 : decode b_Search_finderFloor 4 = .ok (.istore_n 3, 1) := by decide +kernel
theorem d_Search_finderFloor_5 : decode b_Search_finderFloor 5 = .ok (.aload_n 0, 1) := by decide +kernel
theorem d_Search_finderFloor_6 : decode b_Search_finderFloor 6 = .ok (.iload_n 1, 1) := by decide +kernel
theorem d_Search_finderFloor_7 : decode b_Search_finderFloor 7 = .ok (.iconst 2, 1) := by decide +kernel
theorem d_Search_finderFloor_8 : decode b_Search_finderFloor 8 = .ok (.iload_n 3, 1) := by decide +kernel
theorem d_Search_finderFloor_9 : decode b_Search_finderFloor 9 = .ok (.imul, 1) := by decide +kernel
theorem d_Search_finderFloor_10 : decode b_Search_finderFloor 10 = .ok (.iadd, 1) := by decide +kernel
theorem d_Search_finderFloor_11 : decode b_Search_finderFloor 11 = .ok (.iload_n 2, 1) := by decide +kernel
theorem d_Search_finderFloor_12 : decode b_Search_finderFloor 12 = .ok (.iconst 2, 1) := by decide +kernel
theorem d_Search_finderFloor_13 : decode b_Search_finderFloor 13 = .ok (.iload_n 3, 1) := by decide +kernel
theorem d_Search_finderFloor_14 : decode b_Search_finderFloor 14 = .ok (.imul, 1) := by decide +kernel
theorem d_Search_finderFloor_15 : decode b_Search_finderFloor 15 = .ok (.iadd, 1) := by decide +kernel
theorem d_Search_finderFloor_16 : decode b_Search_finderFloor 16 = .ok (.iconst 3, 1) := by decide +kernel
theorem d_Search_finderFloor_17 : decode b_Search_finderFloor 17 = .ok (.iload_n 3, 1) := by decide +kernel
theorem d_Search_finderFloor_18 : decode b_Search_finderFloor 18 = .ok (.imul, 1) := by decide +kernel
theorem d_Search_finderFloor_19 : decode b_Search_finderFloor 19 = .ok (.iconst 3, 1) := by decide +kernel
theorem d_Search_finderFloor_20 : decode b_Search_finderFloor 20 = .ok (.iload_n 3, 1) := by decide +kernel
theorem d_Search_finderFloor_21 : decode b_Search_finderFloor 21 = .ok (.imul, 1) := by decide +kernel
theorem d_Search_finderFloor_22 : decode b_Search_finderFloor 22 = .ok (.invokevirtual 169, 3) := by decide +kernel
theorem d_Search_finderFloor_25 : decode b_Search_finderFloor 25 = .ok (.istore 4, 2) := by decide +kernel
theorem d_Search_finderFloor_27 : decode b_Search_finderFloor 27 = .ok (.aload_n 0, 1) := by decide +kernel
theorem d_Search_finderFloor_28 : decode b_Search_finderFloor 28 = .ok (.iload_n 1, 1) := by decide +kernel
theorem d_Search_finderFloor_29 : decode b_Search_finderFloor 29 = .ok (.iload_n 3, 1) := by decide +kernel
theorem d_Search_finderFloor_30 : decode b_Search_finderFloor 30 = .ok (.iadd, 1) := by decide +kernel
theorem d_Search_finderFloor_31 : decode b_Search_finderFloor 31 = .ok (.iload_n 2, 1) := by decide +kernel
theorem d_Search_finderFloor_32 : decode b_Search_finderFloor 32 = .ok (.iload_n 3, 1) := by decide +kernel
theorem d_Search_finderFloor_33 : decode b_Search_finderFloor 33 = .ok (.iadd, 1) := by decide +kernel
theorem d_Search_finderFloor_34 : decode b_Search_finderFloor 34 = .ok (.iconst 5, 1) := by decide +kernel
theorem d_Search_finderFloor_35 : decode b_Search_finderFloor 35 = .ok (.iload_n 3, 1) := by decide +kernel
theorem d_Search_finderFloor_36 : decode b_Search_finderFloor 36 = .ok (.imul, 1) := by decide +kernel
theorem d_Search_finderFloor_37 : decode b_Search_finderFloor 37 = .ok (.iconst 5, 1) := by decide +kernel
theorem d_Search_finderFloor_38 : decode b_Search_finderFloor 38 = .ok (.iload_n 3, 1) := by decide +kernel
theorem d_Search_finderFloor_39 : decode b_Search_finderFloor 39 = .ok (.imul, 1) := by decide +kernel
theorem d_Search_finderFloor_40 : decode b_Search_finderFloor 40 = .ok (.invokevirtual 172, 3) := by decide +kernel
theorem d_Search_finderFloor_43 : decode b_Search_finderFloor 43 = .ok (.istore 5, 2) := by decide +kernel
theorem d_Search_finderFloor_45 : decode b_Search_finderFloor 45 = .ok (.aload_n 0, 1) := by decide +kernel
theorem d_Search_finderFloor_46 : decode b_Search_finderFloor 46 = .ok (.iload_n 1, 1) := by decide +kernel
theorem d_Search_finderFloor_47 : decode b_Search_finderFloor 47 = .ok (.iload_n 2, 1) := by decide +kernel
theorem d_Search_finderFloor_48 : decode b_Search_finderFloor 48 = .ok (.bipush 7, 2) := by decide +kernel
theorem d_Search_finderFloor_50 : decode b_Search_finderFloor 50 = .ok (.iload_n 3, 1) := by decide +kernel
theorem d_Search_finderFloor_51 : decode b_Search_finderFloor 51 = .ok (.imul, 1) := by decide +kernel
theorem d_Search_finderFloor_52 : decode b_Search_finderFloor 52 = .ok (.bipush 7, 2) := by decide +kernel
theorem d_Search_finderFloor_54 : decode b_Search_finderFloor 54 = .ok (.iload_n 3, 1) := by decide +kernel
theorem d_Search_finderFloor_55 : decode b_Search_finderFloor 55 = .ok (.imul, 1) := by decide +kernel
theorem d_Search_finderFloor_56 : decode b_Search_finderFloor 56 = .ok (.invokevirtual 169, 3) := by decide +kernel
theorem d_Search_finderFloor_59 : decode b_Search_finderFloor 59 = .ok (.iload 5, 2) := by decide +kernel
theorem d_Search_finderFloor_61 : decode b_Search_finderFloor 61 = .ok (.isub, 1) := by decide +kernel
theorem d_Search_finderFloor_62 : decode b_Search_finderFloor 62 = .ok (.istore 6, 2) := by decide +kernel
theorem d_Search_finderFloor_64 : decode b_Search_finderFloor 64 = .ok (.bipush 9, 2) := by decide +kernel
theorem d_Search_finderFloor_66 : decode b_Search_finderFloor 66 = .ok (.iload_n 3, 1) := by decide +kernel
theorem d_Search_finderFloor_67 : decode b_Search_finderFloor 67 = .ok (.imul, 1) := by decide +kernel
theorem d_Search_finderFloor_68 : decode b_Search_finderFloor 68 = .ok (.iload_n 3, 1) := by decide +kernel
theorem d_Search_finderFloor_69 : decode b_Search_finderFloor 69 = .ok (.imul, 1) := by decide +kernel
theorem d_Search_finderFloor_70 : decode b_Search_finderFloor 70 = .ok (.iload 4, 2) := by decide +kernel
theorem d_Search_finderFloor_72 : decode b_Search_finderFloor 72 = .ok (.isub, 1) := by decide +kernel
theorem d_Search_finderFloor_73 : decode b_Search_finderFloor 73 = .ok (.iload 5, 2) := by decide +kernel
theorem d_Search_finderFloor_75 : decode b_Search_finderFloor 75 = .ok (.iload 4, 2) := by decide +kernel
theorem d_Search_finderFloor_77 : decode b_Search_finderFloor 77 = .ok (.isub, 1) := by decide +kernel
theorem d_Search_finderFloor_78 : decode b_Search_finderFloor 78 = .ok (.iconst 0, 1) := by decide +kernel
theorem d_Search_finderFloor_79 : decode b_Search_finderFloor 79 = .ok (.invokestatic 108, 3) := by decide +kernel
theorem d_Search_finderFloor_82 : decode b_Search_finderFloor 82 = .ok (.iadd, 1) := by decide +kernel
theorem d_Search_finderFloor_83 : decode b_Search_finderFloor 83 = .ok (.bipush 24, 2) := by decide +kernel
theorem d_Search_finderFloor_85 : decode b_Search_finderFloor 85 = .ok (.iload_n 3, 1) := by decide +kernel
theorem d_Search_finderFloor_86 : decode b_Search_finderFloor 86 = .ok (.imul, 1) := by decide +kernel
theorem d_Search_finderFloor_87 : decode b_Search_finderFloor 87 = .ok (.iload_n 3, 1) := by decide +kernel
theorem d_Search_finderFloor_88 : decode b_Search_finderFloor 88 = .ok (.imul, 1) := by decide +kernel
theorem d_Search_finderFloor_89 : decode b_Search_finderFloor 89 = .ok (.iload 6, 2) := by decide +kernel
theorem d_Search_finderFloor_91 : decode b_Search_finderFloor 91 = .ok (.isub, 1) := by decide +kernel
theorem d_Search_finderFloor_92 : decode b_Search_finderFloor 92 = .ok (.iconst 0, 1) := by decide +kernel
theorem d_Search_finderFloor_93 : decode b_Search_finderFloor 93 = .ok (.invokestatic 108, 3) := by decide +kernel
theorem d_Search_finderFloor_96 : decode b_Search_finderFloor 96 = .ok (.iadd, 1) := by decide +kernel
theorem d_Search_finderFloor_97 : decode b_Search_finderFloor 97 = .ok (.ireturn, 1) := by decide +kernel
theorem d_Search_borderFloor_0 : decode b_Search_borderFloor 0 = .ok (.aload_n 0, 1) := by decide +kernel
theorem d_Search_borderFloor_1 : decode b_Search_borderFloor 1 = .ok (.getfield 66, 3) := by decide +kernel
theorem d_Search_borderFloor_4 : decode b_Search_borderFloor 4 = .ok (.istore 4, 2) := by decide +kernel
theorem d_Search_borderFloor_6 : decode b_Search_borderFloor 6 = .ok (.iload_n 1, 1) := by decide +kernel
theorem d_Search_borderFloor_7 : decode b_Search_borderFloor 7 = .ok (.invokestatic 101, 3) := by decide +kernel
theorem d_Search_borderFloor_10 : decode b_Search_borderFloor 10 = .ok (.ifCond .eq 10, 3) := by decide +kernel
theorem d_Search_borderFloor_13 : decode b_Search_borderFloor 13 = .ok (.iload_n 2, 1) := by decide +kernel
theorem d_Search_borderFloor_14 : decode b_Search_borderFloor 14 = .ok (.iload 4, 2) := by decide +kernel
theorem d_Search_borderFloor_16 : decode b_Search_borderFloor 16 = .ok (.isub, 1) := by decide +kernel
theorem d_Search_borderFloor_17 : decode b_Search_borderFloor 17 = .ok (.goto 10, 3) := by decide +kernel
theorem d_Search_borderFloor_20 : decode b_Search_borderFloor 20 = .ok (.iload_n 2, 1) := by decide +kernel
theorem d_Search_borderFloor_21 : decode b_Search_borderFloor 21 = .ok (.bipush 7, 2) := by decide +kernel
theorem d_Search_borderFloor_23 : decode b_Search_borderFloor 23 = .ok (.iload 4, 2) := by decide +kernel
theorem d_Search_borderFloor_25 : decode b_Search_borderFloor 25 = .ok (.imul, 1) := by decide +kernel
theorem d_Search_borderFloor_26 : decode b_Search_borderFloor 26 = .ok (.iadd, 1) := by decide +kernel
theorem d_Search_borderFloor_27 : decode b_Search_borderFloor 27 = .ok (.istore 5, 2) := by decide +kernel
theorem d_Search_borderFloor_29 : decode b_Search_borderFloor 29 = .ok (.iload_n 1, 1) := by decide +kernel
theorem d_Search_borderFloor_30 : decode b_Search_borderFloor 30 = .ok (.invokestatic 105, 3) := by decide +kernel
theorem d_Search_borderFloor_33 : decode b_Search_borderFloor 33 = .ok (.ifCond .eq 10, 3) := by decide +kernel
theorem d_Search_borderFloor_36 : decode b_Search_borderFloor 36 = .ok (.iload_n 3, 1) := by decide +kernel
theorem d_Search_borderFloor_37 : decode b_Search_borderFloor 37 = .ok (.iload 4, 2) := by decide +kernel
theorem d_Search_borderFloor_39 : decode b_Search_borderFloor 39 = .ok (.isub, 1) := by decide +kernel
theorem d_Search_borderFloor_40 : decode b_Search_borderFloor 40 = .ok (.goto 10, 3) := by decide +kernel
theorem d_Search_borderFloor_43 : decode b_Search_borderFloor 43 = .ok (.iload_n 3, 1) := by decide +kernel
theorem d_Search_borderFloor_44 : decode b_Search_borderFloor 44 = .ok (.bipush 7, 2) := by decide +kernel
theorem d_Search_borderFloor_46 : decode b_Search_borderFloor 46 = .ok (.iload 4, 2) := by decide +kernel
theorem d_Search_borderFloor_48 : decode b_Search_borderFloor 48 = .ok (.imul, 1) := by decide +kernel
theorem d_Search_borderFloor_49 : decode b_Search_borderFloor 49 = .ok (.iadd, 1) := by decide +kernel
theorem d_Search_borderFloor_50 : decode b_Search_borderFloor 50 = .ok (.istore 6, 2) := by decide +kernel
theorem d_Search_borderFloor_52 : decode b_Search_borderFloor 52 = .ok (.aload_n 0, 1) := by decide +kernel
theorem d_Search_borderFloor_53 : decode b_Search_borderFloor 53 = .ok (.iload 5, 2) := by decide +kernel
theorem d_Search_borderFloor_55 : decode b_Search_borderFloor 55 = .ok (.iload_n 3, 1) := by decide +kernel
theorem d_Search_borderFloor_56 : decode b_Search_borderFloor 56 = .ok (.iload 4, 2) := by decide +kernel
theorem d_Search_borderFloor_58 : decode b_Search_borderFloor 58 = .ok (.bipush 7, 2) := by decide +kernel
theorem d_Search_borderFloor_60 : decode b_Search_borderFloor 60 = .ok (.iload 4, 2) := by decide +kernel
theorem d_Search_borderFloor_62 : decode b_Search_borderFloor 62 = .ok (.imul, 1) := by decide +kernel
theorem d_Search_borderFloor_63 : decode b_Search_borderFloor 63 = .ok (.invokevirtual 172, 3) := by decide +kernel
theorem d_Search_borderFloor_66 : decode b_Search_borderFloor 66 = .ok (.aload_n 0, 1) := by decide +kernel
theorem d_Search_borderFloor_67 : decode b_Search_borderFloor 67 = .ok (.iload_n 2, 1) := by decide +kernel
theorem d_Search_borderFloor_68 : decode b_Search_borderFloor 68 = .ok (.iload 5, 2) := by decide +kernel
theorem d_Search_borderFloor_70 : decode b_Search_borderFloor 70 = .ok (.invokestatic 54, 3) := by decide +kernel
theorem d_Search_borderFloor_73 : decode b_Search_borderFloor 73 = .ok (.iload 6, 2) := by decide +kernel
theorem d_Search_borderFloor_75 : decode b_Search_borderFloor 75 = .ok (.bipush 8, 2) := by decide +kernel
theorem d_Search_borderFloor_77 : decode b_Search_borderFloor 77 = .ok (.iload 4, 2) := by decide +kernel
theorem d_Search_borderFloor_79 : decode b_Search_borderFloor 79 = .ok (.imul, 1) := by decide +kernel
theorem d_Search_borderFloor_80 : decode b_Search_borderFloor 80 = .ok (.iload 4, 2) := by decide +kernel
theorem d_Search_borderFloor_82 : decode b_Search_borderFloor 82 = .ok (.invokevirtual 172, 3) := by decide +kernel
theorem d_Search_borderFloor_85 : decode b_Search_borderFloor 85 = .ok (.iadd, 1) := by decide +kernel
theorem d_Search_borderFloor_86 : decode b_Search_borderFloor 86 = .ok (.ireturn, 1) := by decide +kernel
theorem d_Search_lineFloor_0 : decode b_Search_lineFloor 0 = .ok (.aload_n 0, 1) := by decide +kernel
theorem d_Search_lineFloor_1 : decode b_Search_lineFloor 1 = .ok (.getfield 98, 3) := by decide +kernel
theorem d_Search_lineFloor_4 : decode b_Search_lineFloor 4 = .ok (.bipush 16, 2) := by decide +kernel
theorem d_Search_lineFloor_6 : decode b_Search_lineFloor 6 = .ok (.isub, 1) := by decide +kernel
theorem d_Search_lineFloor_7 : decode b_Search_lineFloor 7 = .ok (.aload_n 0, 1) := by decide +kernel
theorem d_Search_lineFloor_8 : decode b_Search_lineFloor 8 = .ok (.getfield 66, 3) := by decide +kernel
theorem d_Search_lineFloor_11 : decode b_Search_lineFloor 11 = .ok (.imul, 1) := by decide +kernel
theorem d_Search_lineFloor_12 : decode b_Search_lineFloor 12 = .ok (.istore_n 2, 1) := by decide +kernel
theorem d_Search_lineFloor_13 : decode b_Search_lineFloor 13 = .ok (.iload_n 1, 1) := by decide +kernel
theorem d_Search_lineFloor_14 : decode b_Search_lineFloor 14 = .ok (.iconst 2, 1) := by decide +kernel
theorem d_Search_lineFloor_15 : decode b_Search_lineFloor 15 = .ok (.irem, 1) := by decide +kernel
theorem d_Search_lineFloor_16 : decode b_Search_lineFloor 16 = .ok (.ifCond .ne 7, 3) := by decide +kernel
theorem d_Search_lineFloor_19 : decode b_Search_lineFloor 19 = .ok (.iload_n 2, 1) := by decide +kernel
theorem d_Search_lineFloor_20 : decode b_Search_lineFloor 20 = .ok (.goto 7, 3) := by decide +kernel
theorem d_Search_lineFloor_23 : decode b_Search_lineFloor 23 = .ok (.aload_n 0, 1) := by decide +kernel
theorem d_Search_lineFloor_24 : decode b_Search_lineFloor 24 = .ok (.getfield 66, 3) := by decide +kernel
theorem d_Search_lineFloor_27 : decode b_Search_lineFloor 27 = .ok (.istore_n 3, 1) := by decide +kernel
theorem d_Search_lineFloor_28 : decode b_Search_lineFloor 28 = .ok (.iload_n 1, 1) := by decide +kernel
theorem d_Search_lineFloor_29 : decode b_Search_lineFloor 29 = .ok (.iconst 2, 1) := by decide +kernel
theorem d_Search_lineFloor_30 : decode b_Search_lineFloor 30 = .ok (.irem, 1) := by decide +kernel
theorem d_Search_lineFloor_31 : decode b_Search_lineFloor 31 = .ok (.ifCond .ne 10, 3) := by decide +kernel
theorem d_Search_lineFloor_34 : decode b_Search_lineFloor 34 = .ok (.aload_n 0, 1) := by decide +kernel
theorem d_Search_lineFloor_35 : decode b_Search_lineFloor 35 = .ok (.getfield 66, 3) := by decide +kernel
theorem d_Search_lineFloor_38 : decode b_Search_lineFloor 38 = .ok (.goto 4, 3) := by decide +kernel
theorem d_Search_lineFloor_41 : decode b_Search_lineFloor 41 = .ok (.iload_n 2, 1) := by decide +kernel
theorem d_Search_lineFloor_42 : decode b_Search_lineFloor 42 = .ok (.istore 4, 2) := by decide +kernel
theorem d_Search_lineFloor_44 : decode b_Search_lineFloor 44 = .ok (.aload_n 0, 1) := by decide +kernel
theorem d_Search_lineFloor_45 : decode b_Search_lineFloor 45 = .ok (.getfield 98, 3) := by decide +kernel
theorem d_Search_lineFloor_48 : decode b_Search_lineFloor 48 = .ok (.bipush 15, 2) := by decide +kernel
theorem d_Search_lineFloor_50 : decode b_Search_lineFloor 50 = .ok (.isub, 1) := by decide +kernel
theorem d_Search_lineFloor_51 : decode b_Search_lineFloor 51 = .ok (.iconst 2, 1) := by decide +kernel
theorem d_Search_lineFloor_52 : decode b_Search_lineFloor 52 = .ok (.idiv, 1) := by decide +kernel
theorem d_Search_lineFloor_53 : decode b_Search_lineFloor 53 = .ok (.aload_n 0, 1) := by decide +kernel
theorem d_Search_lineFloor_54 : decode b_Search_lineFloor 54 = .ok (.getfield 66, 3) := by decide +kernel
theorem d_Search_lineFloor_57 : decode b_Search_lineFloor 57 = .ok (.imul, 1) := by decide +kernel
theorem d_Search_lineFloor_58 : decode b_Search_lineFloor 58 = .ok (.aload_n 0, 1) := by decide +kernel
theorem d_Search_lineFloor_59 : decode b_Search_lineFloor 59 = .ok (.getfield 66, 3) := by decide +kernel
theorem d_Search_lineFloor_62 : decode b_Search_lineFloor 62 = .ok (.imul, 1) := by decide +kernel
theorem d_Search_lineFloor_63 : decode b_Search_lineFloor 63 = .ok (.istore 5, 2) := by decide +kernel
theorem d_Search_lineFloor_65 : decode b_Search_lineFloor 65 = .ok (.aload_n 0, 1) := by decide +kernel
theorem d_Search_lineFloor_66 : decode b_Search_lineFloor 66 = .ok (.iload_n 1, 1) := by decide +kernel
theorem d_Search_lineFloor_67 : decode b_Search_lineFloor 67 = .ok (.invokevirtual 175, 3) := by decide +kernel
theorem d_Search_lineFloor_70 : decode b_Search_lineFloor 70 = .ok (.istore 6, 2) := by decide +kernel
theorem d_Search_lineFloor_72 : decode b_Search_lineFloor 72 = .ok (.aload_n 0, 1) := by decide +kernel
theorem d_Search_lineFloor_73 : decode b_Search_lineFloor 73 = .ok (.iload_n 1, 1) := by decide +kernel
theorem d_Search_lineFloor_74 : decode b_Search_lineFloor 74 = .ok (.invokevirtual 178, 3) := by decide +kernel
theorem d_Search_lineFloor_77 : decode b_Search_lineFloor 77 = .ok (.istore 7, 2) := by decide +kernel
theorem d_Search_lineFloor_79 : decode b_Search_lineFloor 79 = .ok (.iload 5, 2) := by decide +kernel
theorem d_Search_lineFloor_81 : decode b_Search_lineFloor 81 = .ok (.aload_n 0, 1) := by decide +kernel
theorem d_Search_lineFloor_82 : decode b_Search_lineFloor 82 = .ok (.iload 6, 2) := by decide +kernel
theorem d_Search_lineFloor_84 : decode b_Search_lineFloor 84 = .ok (.iload 7, 2) := by decide +kernel
theorem d_Search_lineFloor_86 : decode b_Search_lineFloor 86 = .ok (.iload_n 3, 1) := by decide +kernel
theorem d_Search_lineFloor_87 : decode b_Search_lineFloor 87 = .ok (.iload 4, 2) := by decide +kernel
theorem d_Search_lineFloor_89 : decode b_Search_lineFloor 89 = .ok (.invokevirtual 169, 3) := by decide +kernel
theorem d_Search_lineFloor_92 : decode b_Search_lineFloor 92 = .ok (.isub, 1) := by decide +kernel
theorem d_Search_lineFloor_93 : decode b_Search_lineFloor 93 = .ok (.istore 8, 2) := by decide +kernel
theorem d_Search_lineFloor_95 : decode b_Search_lineFloor 95 = .ok (.iload 8, 2) := by decide +kernel
theorem d_Search_lineFloor_97 : decode b_Search_lineFloor 97 = .ok (.ifCond .le 8, 3) := by decide +kernel
theorem d_Search_lineFloor_100 : decode b_Search_lineFloor 100 = .ok (.iload 8, 2) := by decide +kernel
theorem d_Search_lineFloor_102 : decode b_Search_lineFloor 102 = .ok (.goto 21, 3) := by decide +kernel
theorem d_Search_lineFloor_105 : decode b_Search_lineFloor 105 = .ok (.aload_n 0, 1) := by decide +kernel
theorem d_Search_lineFloor_106 : decode b_Search_lineFloor 106 = .ok (.iload 6, 2) := by decide +kernel
theorem d_Search_lineFloor_108 : decode b_Search_lineFloor 108 = .ok (.iload 7, 2) := by decide +kernel
theorem d_Search_lineFloor_110 : decode b_Search_lineFloor 110 = .ok (.iload_n 3, 1) := by decide +kernel
theorem d_Search_lineFloor_111 : decode b_Search_lineFloor 111 = .ok (.iload 4, 2) := by decide +kernel
theorem d_Search_lineFloor_113 : decode b_Search_lineFloor 113 = .ok (.invokevirtual 172, 3) := by decide +kernel
theorem d_Search_lineFloor_116 : decode b_Search_lineFloor 116 = .ok (.iload 5, 2) := by decide +kernel
theorem d_Search_lineFloor_118 : decode b_Search_lineFloor 118 = .ok (.isub, 1) := by decide +kernel
theorem d_Search_lineFloor_119 : decode b_Search_lineFloor 119 = .ok (.iconst 0, 1) := by decide +kernel
theorem d_Search_lineFloor_120 : decode b_Search_lineFloor 120 = .ok (.invokestatic 108, 3) := by decide +kernel
theorem d_Search_lineFloor_123 : decode b_Search_lineFloor 123 = .ok (.ireturn, 1) := by decide +kernel
theorem d_Search_withLine_0 : decode b_Search_withLine 0 = .ok (.aload_n 0, 1) := by decide +kernel
theorem d_Search_withLine_1 : decode b_Search_withLine 1 = .ok (.getfield 66, 3) := by decide +kernel
theorem d_Search_withLine_4 : decode b_Search_withLine 4 = .ok (.istore_n 3, 1) := by decide +kernel
theorem d_Search_withLine_5 : decode b_Search_withLine 5 = .ok (.iload_n 1, 1) := by decide +kernel
theorem d_Search_withLine_6 : decode b_Search_withLine 6 = .ok (.iconst 2, 1) := by decide +kernel
theorem d_Search_withLine_7 : decode b_Search_withLine 7 = .ok (.irem, 1) := by decide +kernel
theorem d_Search_withLine_8 : decode b_Search_withLine 8 = .ok (.ifCond .ne 7, 3) := by decide +kernel
theorem d_Search_withLine_11 : decode b_Search_withLine 11 = .ok (.iload_n 3, 1) := by decide +kernel
theorem d_Search_withLine_12 : decode b_Search_withLine 12 = .ok (.goto 4, 3) := by decide +kernel
theorem d_Search_withLine_15 : decode b_Search_withLine 15 = .ok (.iconst 0, 1) := by decide +kernel
theorem d_Search_withLine_16 : decode b_Search_withLine 16 = .ok (.istore 4, 2) := by decide +kernel
theorem d_Search_withLine_18 : decode b_Search_withLine 18 = .ok (.iload_n 3, 1) := by decide +kernel
theorem d_Search_withLine_19 : decode b_Search_withLine 19 = .ok (.iload 4, 2) := by decide +kernel
theorem d_Search_withLine_21 : decode b_Search_withLine 21 = .ok (.isub, 1) := by decide +kernel
theorem d_Search_withLine_22 : decode b_Search_withLine 22 = .ok (.istore 5, 2) := by decide +kernel
theorem d_Search_withLine_24 : decode b_Search_withLine 24 = .ok (.aload_n 0, 1) := by decide +kernel
theorem d_Search_withLine_25 : decode b_Search_withLine 25 = .ok (.iload_n 1, 1) := by decide +kernel
theorem d_Search_withLine_26 : decode b_Search_withLine 26 = .ok (.invokevirtual 175, 3) := by decide +kernel
theorem d_Search_withLine_29 : decode b_Search_withLine 29 = .ok (.istore 6, 2) := by decide +kernel
theorem d_Search_withLine_31 : decode b_Search_withLine 31 = .ok (.aload_n 0, 1) := by decide +kernel
theorem d_Search_withLine_32 : decode b_Search_withLine 32 = .ok (.iload_n 1, 1) := by decide +kernel
theorem d_Search_withLine_33 : decode b_Search_withLine 33 = .ok (.invokevirtual 178, 3) := by decide +kernel
theorem d_Search_withLine_36 : decode b_Search_withLine 36 = .ok (.istore 7, 2) := by decide +kernel
theorem d_Search_withLine_38 : decode b_Search_withLine 38 = .ok (.iload_n 2, 1) := by decide +kernel
theorem d_Search_withLine_39 : decode b_Search_withLine 39 = .ok (.istore 8, 2) := by decide +kernel
theorem d_Search_withLine_41 : decode b_Search_withLine 41 = .ok (.iconst 0, 1) := by decide +kernel
theorem d_Search_withLine_42 : decode b_Search_withLine 42 = .ok (.istore 9, 2) := by decide +kernel
theorem d_Search_withLine_44 : decode b_Search_withLine 44 = .ok (.iload 9, 2) := by decide +kernel
theorem d_Search_withLine_46 : decode b_Search_withLine 46 = .ok (.aload_n 0, 1) := by decide +kernel
theorem d_Search_withLine_47 : decode b_Search_withLine 47 = .ok (.getfield 98, 3) := by decide +kernel
theorem d_Search_withLine_50 : decode b_Search_withLine 50 = .ok (.bipush 16, 2) := by decide +kernel
theorem d_Search_withLine_52 : decode b_Search_withLine 52 = .ok (.isub, 1) := by decide +kernel
theorem d_Search_withLine_53 : decode b_Search_withLine 53 = .ok (.if_icmp .ge 68, 3) := by decide +kernel
theorem d_Search_withLine_56 : decode b_Search_withLine 56 = .ok (.iload 8, 2) := by decide +kernel
theorem d_Search_withLine_58 : decode b_Search_withLine 58 = .ok (.aload_n 0, 1) := by decide +kernel
theorem d_Search_withLine_59 : decode b_Search_withLine 59 = .ok (.getfield 37, 3) := by decide +kernel
theorem d_Search_withLine_62 : decode b_Search_withLine 62 = .ok (.if_icmp .gt 59, 3) := by decide +kernel
theorem d_Search_withLine_65 : decode b_Search_withLine 65 = .ok (.aload_n 0, 1) := by decide +kernel
theorem d_Search_withLine_66 : decode b_Search_withLine 66 = .ok (.getfield 12, 3) := by decide +kernel
theorem d_Search_withLine_69 : decode b_Search_withLine 69 = .ok (.iload 6, 2) := by decide +kernel
theorem d_Search_withLine_71 : decode b_Search_withLine 71 = .ok (.iload 9, 2) := by decide +kernel
theorem d_Search_withLine_73 : decode b_Search_withLine 73 = .ok (.iload 4, 2) := by decide +kernel
theorem d_Search_withLine_75 : decode b_Search_withLine 75 = .ok (.imul, 1) := by decide +kernel
theorem d_Search_withLine_76 : decode b_Search_withLine 76 = .ok (.iadd, 1) := by decide +kernel
theorem d_Search_withLine_77 : decode b_Search_withLine 77 = .ok (.iload 7, 2) := by decide +kernel
theorem d_Search_withLine_79 : decode b_Search_withLine 79 = .ok (.iload 9, 2) := by decide +kernel
theorem d_Search_withLine_81 : decode b_Search_withLine 81 = .ok (.iload 5, 2) := by decide +kernel
theorem d_Search_withLine_83 : decode b_Search_withLine 83 = .ok (.imul, 1) := by decide +kernel
theorem d_Search_withLine_84 : decode b_Search_withLine 84 = .ok (.iadd, 1) := by decide +kernel
theorem d_Search_withLine_85 : decode b_Search_withLine 85 = .ok (.iload_n 3, 1) := by decide +kernel
theorem d_Search_withLine_86 : decode b_Search_withLine 86 = .ok (.iload_n 3, 1) := by decide +kernel
theorem d_Search_withLine_87 : decode b_Search_withLine 87 = .ok (.invokevirtual 165, 3) := by decide +kernel
theorem d_Search_withLine_90 : decode b_Search_withLine 90 = .ok (.istore 10, 2) := by decide +kernel
theorem d_Search_withLine_92 : decode b_Search_withLine 92 = .ok (.iload 8, 2) := by decide +kernel
theorem d_Search_withLine_94 : decode b_Search_withLine 94 = .ok (.iload 9, 2) := by decide +kernel
theorem d_Search_withLine_96 : decode b_Search_withLine 96 = .ok (.iconst 2, 1) := by decide +kernel
theorem d_Search_withLine_97 : decode b_Search_withLine 97 = .ok (.irem, 1) := by decide +kernel
theorem d_Search_withLine_98 : decode b_Search_withLine 98 = .ok (.ifCond .ne 12, 3) := by decide +kernel
end
section
theorem d_Search_withLine_101 : decode b_Search_withLine 101 = .ok (.iload_n 3, 1) := by decide +kernel
theorem d_Search_withLine_102 : decode b_Search_withLine 102 = .ok (.iload_n 3, 1) := by decide +kernel
theorem d_Search_withLine_103 : decode b_Search_withLine 103 = .ok (.imul, 1) := by decide +kernel
theorem d_Search_withLine_104 : decode b_Search_withLine 104 = .ok (.iload 10, 2) := by decide +kernel
theorem d_Search_withLine_106 : decode b_Search_withLine 106 = .ok (.isub, 1) := by decide +kernel
theorem d_Search_withLine_107 : decode b_Search_withLine 107 = .ok (.goto 5, 3) := by decide +kernel
theorem d_Search_withLine_110 : decode b_Search_withLine 110 = .ok (.iload 10, 2) := by decide +kernel
theorem d_Search_withLine_112 : decode b_Search_withLine 112 = .ok (.iadd, 1) := by decide +kernel
theorem d_Search_withLine_113 : decode b_Search_withLine 113 = .ok (.istore 8, 2) := by decide +kernel
theorem d_Search_withLine_115 : decode b_Search_withLine 115 = .ok (.iinc 9 1, 3) := by decide +kernel
theorem d_Search_withLine_118 : decode b_Search_withLine 118 = .ok (.goto (-74), 3) := by decide +kernel
theorem d_Search_withLine_121 : decode b_Search_withLine 121 = .ok (.iload 8, 2) := by decide +kernel
theorem d_Search_withLine_123 : decode b_Search_withLine 123 = .ok (.ireturn, 1) := by decide +kernel
theorem d_Search_lineX_0 : decode b_Search_lineX 0 = .ok (.aload_n 0, 1) := by decide +kernel
theorem d_Search_lineX_1 : decode b_Search_lineX 1 = .ok (.getfield 146, 3) := by decide +kernel
theorem d_Search_lineX_4 : decode b_Search_lineX 4 = .ok (.aload_n 0, 1) := by decide +kernel
theorem d_Search_lineX_5 : decode b_Search_lineX 5 = .ok (.getfield 66, 3) := by decide +kernel
theorem d_Search_lineX_8 : decode b_Search_lineX 8 = .ok (.iload_n 1, 1) := by decide +kernel
theorem d_Search_lineX_9 : decode b_Search_lineX 9 = .ok (.iconst 1, 1) := by decide +kernel
theorem d_Search_lineX_10 : decode b_Search_lineX 10 = .ok (.if_icmp .ne 13, 3) := by decide +kernel
theorem d_Search_lineX_13 : decode b_Search_lineX 13 = .ok (.aload_n 0, 1) := by decide +kernel
theorem d_Search_lineX_14 : decode b_Search_lineX 14 = .ok (.getfield 98, 3) := by decide +kernel
theorem d_Search_lineX_17 : decode b_Search_lineX 17 = .ok (.bipush 7, 2) := by decide +kernel
theorem d_Search_lineX_19 : decode b_Search_lineX 19 = .ok (.isub, 1) := by decide +kernel
theorem d_Search_lineX_20 : decode b_Search_lineX 20 = .ok (.goto 15, 3) := by decide +kernel
theorem d_Search_lineX_23 : decode b_Search_lineX 23 = .ok (.iload_n 1, 1) := by decide +kernel
theorem d_Search_lineX_24 : decode b_Search_lineX 24 = .ok (.iconst 3, 1) := by decide +kernel
theorem d_Search_lineX_25 : decode b_Search_lineX 25 = .ok (.if_icmp .ne 8, 3) := by decide +kernel
theorem d_Search_lineX_28 : decode b_Search_lineX 28 = .ok (.bipush 6, 2) := by decide +kernel
theorem d_Search_lineX_30 : decode b_Search_lineX 30 = .ok (.goto 5, 3) := by decide +kernel
theorem d_Search_lineX_33 : decode b_Search_lineX 33 = .ok (.bipush 8, 2) := by decide +kernel
theorem d_Search_lineX_35 : decode b_Search_lineX 35 = .ok (.imul, 1) := by decide +kernel
theorem d_Search_lineX_36 : decode b_Search_lineX 36 = .ok (.iadd, 1) := by decide +kernel
theorem d_Search_lineX_37 : decode b_Search_lineX 37 = .ok (.ireturn, 1) := by decide +kernel
theorem d_Search_lineY_0 : decode b_Search_lineY 0 = .ok (.aload_n 0, 1) := by decide +kernel
theorem d_Search_lineY_1 : decode b_Search_lineY 1 = .ok (.getfield 149, 3) := by decide +kernel
theorem d_Search_lineY_4 : decode b_Search_lineY 4 = .ok (.aload_n 0, 1) := by decide +kernel
theorem d_Search_lineY_5 : decode b_Search_lineY 5 = .ok (.getfield 66, 3) := by decide +kernel
theorem d_Search_lineY_8 : decode b_Search_lineY 8 = .ok (.iload_n 1, 1) := by decide +kernel
theorem d_Search_lineY_9 : decode b_Search_lineY 9 = .ok (.ifCond .ne 8, 3) := by decide +kernel
theorem d_Search_lineY_12 : decode b_Search_lineY 12 = .ok (.bipush 6, 2) := by decide +kernel
theorem d_Search_lineY_14 : decode b_Search_lineY 14 = .ok (.goto 20, 3) := by decide +kernel
theorem d_Search_lineY_17 : decode b_Search_lineY 17 = .ok (.iload_n 1, 1) := by decide +kernel
theorem d_Search_lineY_18 : decode b_Search_lineY 18 = .ok (.iconst 2, 1) := by decide +kernel
theorem d_Search_lineY_19 : decode b_Search_lineY 19 = .ok (.if_icmp .ne 13, 3) := by decide +kernel
theorem d_Search_lineY_22 : decode b_Search_lineY 22 = .ok (.aload_n 0, 1) := by decide +kernel
theorem d_Search_lineY_23 : decode b_Search_lineY 23 = .ok (.getfield 98, 3) := by decide +kernel
theorem d_Search_lineY_26 : decode b_Search_lineY 26 = .ok (.bipush 7, 2) := by decide +kernel
theorem d_Search_lineY_28 : decode b_Search_lineY 28 = .ok (.isub, 1) := by decide +kernel
theorem d_Search_lineY_29 : decode b_Search_lineY 29 = .ok (.goto 5, 3) := by decide +kernel
theorem d_Search_lineY_32 : decode b_Search_lineY 32 = .ok (.bipush 8, 2) := by decide +kernel
theorem d_Search_lineY_34 : decode b_Search_lineY 34 = .ok (.imul, 1) := by decide +kernel
theorem d_Search_lineY_35 : decode b_Search_lineY 35 = .ok (.iadd, 1) := by decide +kernel
theorem d_Search_lineY_36 : decode b_Search_lineY 36 = .ok (.ireturn, 1) := by decide +kernel
theorem d_Search_spotFloor_0 : decode b_Search_spotFloor 0 = .ok (.iload_n 1, 1) := by decide +kernel
theorem d_Search_spotFloor_1 : decode b_Search_spotFloor 1 = .ok (.ifCond .ne 8, 3) := by decide +kernel
theorem d_Search_spotFloor_4 : decode b_Search_spotFloor 4 = .ok (.bipush 8, 2) := by decide +kernel
theorem d_Search_spotFloor_6 : decode b_Search_spotFloor 6 = .ok (.goto 35, 3) := by decide +kernel
theorem d_Search_spotFloor_9 : decode b_Search_spotFloor 9 = .ok (.iload_n 1, 1) := by decide +kernel
theorem d_Search_spotFloor_10 : decode b_Search_spotFloor 10 = .ok (.iconst 1, 1) := by decide +kernel
theorem d_Search_spotFloor_11 : decode b_Search_spotFloor 11 = .ok (.if_icmp .ne 8, 3) := by decide +kernel
theorem d_Search_spotFloor_14 : decode b_Search_spotFloor 14 = .ok (.bipush 7, 2) := by decide +kernel
theorem d_Search_spotFloor_16 : decode b_Search_spotFloor 16 = .ok (.goto 25, 3) := by decide +kernel
theorem d_Search_spotFloor_19 : decode b_Search_spotFloor 19 = .ok (.iload_n 1, 1) := by decide +kernel
theorem d_Search_spotFloor_20 : decode b_Search_spotFloor 20 = .ok (.iconst 2, 1) := by decide +kernel
theorem d_Search_spotFloor_21 : decode b_Search_spotFloor 21 = .ok (.if_icmp .ne 13, 3) := by decide +kernel
theorem d_Search_spotFloor_24 : decode b_Search_spotFloor 24 = .ok (.aload_n 0, 1) := by decide +kernel
theorem d_Search_spotFloor_25 : decode b_Search_spotFloor 25 = .ok (.getfield 98, 3) := by decide +kernel
theorem d_Search_spotFloor_28 : decode b_Search_spotFloor 28 = .ok (.bipush 9, 2) := by decide +kernel
theorem d_Search_spotFloor_30 : decode b_Search_spotFloor 30 = .ok (.isub, 1) := by decide +kernel
theorem d_Search_spotFloor_31 : decode b_Search_spotFloor 31 = .ok (.goto 10, 3) := by decide +kernel
theorem d_Search_spotFloor_34 : decode b_Search_spotFloor 34 = .ok (.aload_n 0, 1) := by decide +kernel
theorem d_Search_spotFloor_35 : decode b_Search_spotFloor 35 = .ok (.getfield 98, 3) := by decide +kernel
theorem d_Search_spotFloor_38 : decode b_Search_spotFloor 38 = .ok (.bipush 8, 2) := by decide +kernel
theorem d_Search_spotFloor_40 : decode b_Search_spotFloor 40 = .ok (.isub, 1) := by decide +kernel
theorem d_Search_spotFloor_41 : decode b_Search_spotFloor 41 = .ok (.istore_n 2, 1) := by decide +kernel
theorem d_Search_spotFloor_42 : decode b_Search_spotFloor 42 = .ok (.iload_n 1, 1) := by decide +kernel
theorem d_Search_spotFloor_43 : decode b_Search_spotFloor 43 = .ok (.ifCond .ne 13, 3) := by decide +kernel
theorem d_Search_spotFloor_46 : decode b_Search_spotFloor 46 = .ok (.aload_n 0, 1) := by decide +kernel
theorem d_Search_spotFloor_47 : decode b_Search_spotFloor 47 = .ok (.getfield 98, 3) := by decide +kernel
theorem d_Search_spotFloor_50 : decode b_Search_spotFloor 50 = .ok (.bipush 8, 2) := by decide +kernel
theorem d_Search_spotFloor_52 : decode b_Search_spotFloor 52 = .ok (.isub, 1) := by decide +kernel
theorem d_Search_spotFloor_53 : decode b_Search_spotFloor 53 = .ok (.goto 30, 3) := by decide +kernel
theorem d_Search_spotFloor_56 : decode b_Search_spotFloor 56 = .ok (.iload_n 1, 1) := by decide +kernel
theorem d_Search_spotFloor_57 : decode b_Search_spotFloor 57 = .ok (.iconst 1, 1) := by decide +kernel
theorem d_Search_spotFloor_58 : decode b_Search_spotFloor 58 = .ok (.if_icmp .ne 8, 3) := by decide +kernel
theorem d_Search_spotFloor_61 : decode b_Search_spotFloor 61 = .ok (.bipush 8, 2) := by decide +kernel
theorem d_Search_spotFloor_63 : decode b_Search_spotFloor 63 = .ok (.goto 20, 3) := by decide +kernel
theorem d_Search_spotFloor_66 : decode b_Search_spotFloor 66 = .ok (.iload_n 1, 1) := by decide +kernel
theorem d_Search_spotFloor_67 : decode b_Search_spotFloor 67 = .ok (.iconst 2, 1) := by decide +kernel
theorem d_Search_spotFloor_68 : decode b_Search_spotFloor 68 = .ok (.if_icmp .ne 8, 3) := by decide +kernel
theorem d_Search_spotFloor_71 : decode b_Search_spotFloor 71 = .ok (.bipush 7, 2) := by decide +kernel
theorem d_Search_spotFloor_73 : decode b_Search_spotFloor 73 = .ok (.goto 10, 3) := by decide +kernel
theorem d_Search_spotFloor_76 : decode b_Search_spotFloor 76 = .ok (.aload_n 0, 1) := by decide +kernel
theorem d_Search_spotFloor_77 : decode b_Search_spotFloor 77 = .ok (.getfield 98, 3) := by decide +kernel
theorem d_Search_spotFloor_80 : decode b_Search_spotFloor 80 = .ok (.bipush 9, 2) := by decide +kernel
theorem d_Search_spotFloor_82 : decode b_Search_spotFloor 82 = .ok (.isub, 1) := by decide +kernel
theorem d_Search_spotFloor_83 : decode b_Search_spotFloor 83 = .ok (.istore_n 3, 1) := by decide +kernel
theorem d_Search_spotFloor_84 : decode b_Search_spotFloor 84 = .ok (.aload_n 0, 1) := by decide +kernel
theorem d_Search_spotFloor_85 : decode b_Search_spotFloor 85 = .ok (.getfield 66, 3) := by decide +kernel
theorem d_Search_spotFloor_88 : decode b_Search_spotFloor 88 = .ok (.aload_n 0, 1) := by decide +kernel
theorem d_Search_spotFloor_89 : decode b_Search_spotFloor 89 = .ok (.getfield 66, 3) := by decide +kernel
theorem d_Search_spotFloor_92 : decode b_Search_spotFloor 92 = .ok (.imul, 1) := by decide +kernel
theorem d_Search_spotFloor_93 : decode b_Search_spotFloor 93 = .ok (.aload_n 0, 1) := by decide +kernel
theorem d_Search_spotFloor_94 : decode b_Search_spotFloor 94 = .ok (.aload_n 0, 1) := by decide +kernel
theorem d_Search_spotFloor_95 : decode b_Search_spotFloor 95 = .ok (.getfield 146, 3) := by decide +kernel
theorem d_Search_spotFloor_98 : decode b_Search_spotFloor 98 = .ok (.aload_n 0, 1) := by decide +kernel
theorem d_Search_spotFloor_99 : decode b_Search_spotFloor 99 = .ok (.getfield 66, 3) := by decide +kernel
theorem d_Search_spotFloor_102 : decode b_Search_spotFloor 102 = .ok (.iload_n 2, 1) := by decide +kernel
theorem d_Search_spotFloor_103 : decode b_Search_spotFloor 103 = .ok (.imul, 1) := by decide +kernel
theorem d_Search_spotFloor_104 : decode b_Search_spotFloor 104 = .ok (.iadd, 1) := by decide +kernel
theorem d_Search_spotFloor_105 : decode b_Search_spotFloor 105 = .ok (.aload_n 0, 1) := by decide +kernel
theorem d_Search_spotFloor_106 : decode b_Search_spotFloor 106 = .ok (.getfield 149, 3) := by decide +kernel
theorem d_Search_spotFloor_109 : decode b_Search_spotFloor 109 = .ok (.aload_n 0, 1) := by decide +kernel
theorem d_Search_spotFloor_110 : decode b_Search_spotFloor 110 = .ok (.getfield 66, 3) := by decide +kernel
theorem d_Search_spotFloor_113 : decode b_Search_spotFloor 113 = .ok (.iload_n 3, 1) := by decide +kernel
theorem d_Search_spotFloor_114 : decode b_Search_spotFloor 114 = .ok (.imul, 1) := by decide +kernel
theorem d_Search_spotFloor_115 : decode b_Search_spotFloor 115 = .ok (.iadd, 1) := by decide +kernel
theorem d_Search_spotFloor_116 : decode b_Search_spotFloor 116 = .ok (.aload_n 0, 1) := by decide +kernel
theorem d_Search_spotFloor_117 : decode b_Search_spotFloor 117 = .ok (.getfield 66, 3) := by decide +kernel
theorem d_Search_spotFloor_120 : decode b_Search_spotFloor 120 = .ok (.aload_n 0, 1) := by decide +kernel
theorem d_Search_spotFloor_121 : decode b_Search_spotFloor 121 = .ok (.getfield 66, 3) := by decide +kernel
theorem d_Search_spotFloor_124 : decode b_Search_spotFloor 124 = .ok (.invokevirtual 169, 3) := by decide +kernel
theorem d_Search_spotFloor_127 : decode b_Search_spotFloor 127 = .ok (.isub, 1) := by decide +kernel
theorem d_Search_spotFloor_128 : decode b_Search_spotFloor 128 = .ok (.ireturn, 1) := by decide +kernel
theorem d_Search_mostDark_0 : decode b_Search_mostDark 0 = .ok (.aload_n 0, 1) := by decide +kernel
theorem d_Search_mostDark_1 : decode b_Search_mostDark 1 = .ok (.getfield 12, 3) := by decide +kernel
theorem d_Search_mostDark_4 : decode b_Search_mostDark 4 = .ok (.iload_n 1, 1) := by decide +kernel
theorem d_Search_mostDark_5 : decode b_Search_mostDark 5 = .ok (.iload_n 2, 1) := by decide +kernel
theorem d_Search_mostDark_6 : decode b_Search_mostDark 6 = .ok (.iload_n 3, 1) := by decide +kernel
theorem d_Search_mostDark_7 : decode b_Search_mostDark 7 = .ok (.aload_n 0, 1) := by decide +kernel
theorem d_Search_mostDark_8 : decode b_Search_mostDark 8 = .ok (.getfield 159, 3) := by decide +kernel
theorem d_Search_mostDark_11 : decode b_Search_mostDark 11 = .ok (.iadd, 1) := by decide +kernel
theorem d_Search_mostDark_12 : decode b_Search_mostDark 12 = .ok (.iload 4, 2) := by decide +kernel
theorem d_Search_mostDark_14 : decode b_Search_mostDark 14 = .ok (.aload_n 0, 1) := by decide +kernel
theorem d_Search_mostDark_15 : decode b_Search_mostDark 15 = .ok (.getfield 162, 3) := by decide +kernel
theorem d_Search_mostDark_18 : decode b_Search_mostDark 18 = .ok (.iadd, 1) := by decide +kernel
theorem d_Search_mostDark_19 : decode b_Search_mostDark 19 = .ok (.invokevirtual 165, 3) := by decide +kernel
theorem d_Search_mostDark_22 : decode b_Search_mostDark 22 = .ok (.istore 5, 2) := by decide +kernel
theorem d_Search_mostDark_24 : decode b_Search_mostDark 24 = .ok (.aload_n 0, 1) := by decide +kernel
theorem d_Search_mostDark_25 : decode b_Search_mostDark 25 = .ok (.invokevirtual 83, 3) := by decide +kernel
theorem d_Search_mostDark_28 : decode b_Search_mostDark 28 = .ok (.ifCond .eq 6, 3) := by decide +kernel
theorem d_Search_mostDark_31 : decode b_Search_mostDark 31 = .ok (.iload 5, 2) := by decide +kernel
theorem d_Search_mostDark_33 : decode b_Search_mostDark 33 = .ok (.ireturn, 1) := by decide +kernel
theorem d_Search_mostDark_34 : decode b_Search_mostDark 34 = .ok (.iload_n 3, 1) := by decide +kernel
theorem d_Search_mostDark_35 : decode b_Search_mostDark 35 = .ok (.aload_n 0, 1) := by decide +kernel
theorem d_Search_mostDark_36 : decode b_Search_mostDark 36 = .ok (.getfield 159, 3) := by decide +kernel
theorem d_Search_mostDark_39 : decode b_Search_mostDark 39 = .ok (.isub, 1) := by decide +kernel
theorem d_Search_mostDark_40 : decode b_Search_mostDark 40 = .ok (.iconst 0, 1) := by decide +kernel
theorem d_Search_mostDark_41 : decode b_Search_mostDark 41 = .ok (.invokestatic 108, 3) := by decide +kernel
theorem d_Search_mostDark_44 : decode b_Search_mostDark 44 = .ok (.istore 6, 2) := by decide +kernel
theorem d_Search_mostDark_46 : decode b_Search_mostDark 46 = .ok (.iload 4, 2) := by decide +kernel
theorem d_Search_mostDark_48 : decode b_Search_mostDark 48 = .ok (.aload_n 0, 1) := by decide +kernel
theorem d_Search_mostDark_49 : decode b_Search_mostDark 49 = .ok (.getfield 162, 3) := by decide +kernel
theorem d_Search_mostDark_52 : decode b_Search_mostDark 52 = .ok (.isub, 1) := by decide +kernel
theorem d_Search_mostDark_53 : decode b_Search_mostDark 53 = .ok (.iconst 0, 1) := by decide +kernel
theorem d_Search_mostDark_54 : decode b_Search_mostDark 54 = .ok (.invokestatic 108, 3) := by decide +kernel
theorem d_Search_mostDark_57 : decode b_Search_mostDark 57 = .ok (.istore 7, 2) := by decide +kernel
theorem d_Search_mostDark_59 : decode b_Search_mostDark 59 = .ok (.aload_n 0, 1) := by decide +kernel
theorem d_Search_mostDark_60 : decode b_Search_mostDark 60 = .ok (.getfield 12, 3) := by decide +kernel
theorem d_Search_mostDark_63 : decode b_Search_mostDark 63 = .ok (.iload_n 1, 1) := by decide +kernel
theorem d_Search_mostDark_64 : decode b_Search_mostDark 64 = .ok (.aload_n 0, 1) := by decide +kernel
theorem d_Search_mostDark_65 : decode b_Search_mostDark 65 = .ok (.getfield 159, 3) := by decide +kernel
theorem d_Search_mostDark_68 : decode b_Search_mostDark 68 = .ok (.iadd, 1) := by decide +kernel
theorem d_Search_mostDark_69 : decode b_Search_mostDark 69 = .ok (.iload_n 2, 1) := by decide +kernel
theorem d_Search_mostDark_70 : decode b_Search_mostDark 70 = .ok (.aload_n 0, 1) := by decide +kernel
theorem d_Search_mostDark_71 : decode b_Search_mostDark 71 = .ok (.getfield 162, 3) := by decide +kernel
theorem d_Search_mostDark_74 : decode b_Search_mostDark 74 = .ok (.iadd, 1) := by decide +kernel
theorem d_Search_mostDark_75 : decode b_Search_mostDark 75 = .ok (.iload 6, 2) := by decide +kernel
theorem d_Search_mostDark_77 : decode b_Search_mostDark 77 = .ok (.iload 7, 2) := by decide +kernel
theorem d_Search_mostDark_79 : decode b_Search_mostDark 79 = .ok (.invokevirtual 165, 3) := by decide +kernel
theorem d_Search_mostDark_82 : decode b_Search_mostDark 82 = .ok (.istore 8, 2) := by decide +kernel
theorem d_Search_mostDark_84 : decode b_Search_mostDark 84 = .ok (.iload 5, 2) := by decide +kernel
theorem d_Search_mostDark_86 : decode b_Search_mostDark 86 = .ok (.iload 8, 2) := by decide +kernel
theorem d_Search_mostDark_88 : decode b_Search_mostDark 88 = .ok (.iload_n 3, 1) := by decide +kernel
theorem d_Search_mostDark_89 : decode b_Search_mostDark 89 = .ok (.iload 4, 2) := by decide +kernel
theorem d_Search_mostDark_91 : decode b_Search_mostDark 91 = .ok (.imul, 1) := by decide +kernel
theorem d_Search_mostDark_92 : decode b_Search_mostDark 92 = .ok (.iadd, 1) := by decide +kernel
theorem d_Search_mostDark_93 : decode b_Search_mostDark 93 = .ok (.iload 6, 2) := by decide +kernel
theorem d_Search_mostDark_95 : decode b_Search_mostDark 95 = .ok (.iload 7, 2) := by decide +kernel
theorem d_Search_mostDark_97 : decode b_Search_mostDark 97 = .ok (.imul, 1) := by decide +kernel
theorem d_Search_mostDark_98 : decode b_Search_mostDark 98 = .ok (.isub, 1) := by decide +kernel
theorem d_Search_mostDark_99 : decode b_Search_mostDark 99 = .ok (.invokestatic 54, 3) := by decide +kernel
theorem d_Search_mostDark_102 : decode b_Search_mostDark 102 = .ok (.ireturn, 1) := by decide +kernel
theorem d_Search_leastDark_0 : decode b_Search_leastDark 0 = .ok (.aload_n 0, 1) := by decide +kernel
theorem d_Search_leastDark_1 : decode b_Search_leastDark 1 = .ok (.getfield 12, 3) := by decide +kernel
theorem d_Search_leastDark_4 : decode b_Search_leastDark 4 = .ok (.iload_n 1, 1) := by decide +kernel
theorem d_Search_leastDark_5 : decode b_Search_leastDark 5 = .ok (.iload_n 2, 1) := by decide +kernel
theorem d_Search_leastDark_6 : decode b_Search_leastDark 6 = .ok (.iload_n 3, 1) := by decide +kernel
theorem d_Search_leastDark_7 : decode b_Search_leastDark 7 = .ok (.aload_n 0, 1) := by decide +kernel
theorem d_Search_leastDark_8 : decode b_Search_leastDark 8 = .ok (.getfield 159, 3) := by decide +kernel
theorem d_Search_leastDark_11 : decode b_Search_leastDark 11 = .ok (.iadd, 1) := by decide +kernel
theorem d_Search_leastDark_12 : decode b_Search_leastDark 12 = .ok (.iload 4, 2) := by decide +kernel
theorem d_Search_leastDark_14 : decode b_Search_leastDark 14 = .ok (.aload_n 0, 1) := by decide +kernel
theorem d_Search_leastDark_15 : decode b_Search_leastDark 15 = .ok (.getfield 162, 3) := by decide +kernel
theorem d_Search_leastDark_18 : decode b_Search_leastDark 18 = .ok (.iadd, 1) := by decide +kernel
theorem d_Search_leastDark_19 : decode b_Search_leastDark 19 = .ok (.invokevirtual 165, 3) := by decide +kernel
theorem d_Search_leastDark_22 : decode b_Search_leastDark 22 = .ok (.istore 5, 2) := by decide +kernel
theorem d_Search_leastDark_24 : decode b_Search_leastDark 24 = .ok (.aload_n 0, 1) := by decide +kernel
theorem d_Search_leastDark_25 : decode b_Search_leastDark 25 = .ok (.invokevirtual 83, 3) := by decide +kernel
theorem d_Search_leastDark_28 : decode b_Search_leastDark 28 = .ok (.ifCond .eq 6, 3) := by decide +kernel
theorem d_Search_leastDark_31 : decode b_Search_leastDark 31 = .ok (.iload 5, 2) := by decide +kernel
theorem d_Search_leastDark_33 : decode b_Search_leastDark 33 = .ok (.ireturn, 1) := by decide +kernel
theorem d_Search_leastDark_34 : decode b_Search_leastDark 34 = .ok (.iload_n 3, 1) := by decide +kernel
theorem d_Search_leastDark_35 : decode b_Search_leastDark 35 = .ok (.aload_n 0, 1) := by decide +kernel
theorem d_Search_leastDark_36 : decode b_Search_leastDark 36 = .ok (.getfield 159, 3) := by decide +kernel
theorem d_Search_leastDark_39 : decode b_Search_leastDark 39 = .ok (.iadd, 1) := by decide +kernel
theorem d_Search_leastDark_40 : decode b_Search_leastDark 40 = .ok (.iload 4, 2) := by decide +kernel
theorem d_Search_leastDark_42 : decode b_Search_leastDark 42 = .ok (.aload_n 0, 1) := by decide +kernel
theorem d_Search_leastDark_43 : decode b_Search_leastDark 43 = .ok (.getfield 162, 3) := by decide +kernel
theorem d_Search_leastDark_46 : decode b_Search_leastDark 46 = .ok (.iadd, 1) := by decide +kernel
theorem d_Search_leastDark_47 : decode b_Search_leastDark 47 = .ok (.imul, 1) := by decide +kernel
theorem d_Search_leastDark_48 : decode b_Search_leastDark 48 = .ok (.iload_n 3, 1) := by decide +kernel
theorem d_Search_leastDark_49 : decode b_Search_leastDark 49 = .ok (.iload 4, 2) := by decide +kernel
theorem d_Search_leastDark_51 : decode b_Search_leastDark 51 = .ok (.imul, 1) := by decide +kernel
theorem d_Search_leastDark_52 : decode b_Search_leastDark 52 = .ok (.isub, 1) := by decide +kernel
theorem d_Search_leastDark_53 : decode b_Search_leastDark 53 = .ok (.istore 6, 2) := by decide +kernel
theorem d_Search_leastDark_55 : decode b_Search_leastDark 55 = .ok (.aload_n 0, 1) := by decide +kernel
theorem d_Search_leastDark_56 : decode b_Search_leastDark 56 = .ok (.getfield 12, 3) := by decide +kernel
theorem d_Search_leastDark_59 : decode b_Search_leastDark 59 = .ok (.iload_n 1, 1) := by decide +kernel
theorem d_Search_leastDark_60 : decode b_Search_leastDark 60 = .ok (.aload_n 0, 1) := by decide +kernel
theorem d_Search_leastDark_61 : decode b_Search_leastDark 61 = .ok (.getfield 159, 3) := by decide +kernel
theorem d_Search_leastDark_64 : decode b_Search_leastDark 64 = .ok (.iadd, 1) := by decide +kernel
theorem d_Search_leastDark_65 : decode b_Search_leastDark 65 = .ok (.iload_n 2, 1) := by decide +kernel
theorem d_Search_leastDark_66 : decode b_Search_leastDark 66 = .ok (.aload_n 0, 1) := by decide +kernel
theorem d_Search_leastDark_67 : decode b_Search_leastDark 67 = .ok (.getfield 162, 3) := by decide +kernel
theorem d_Search_leastDark_70 : decode b_Search_leastDark 70 = .ok (.iadd, 1) := by decide +kernel
theorem d_Search_leastDark_71 : decode b_Search_leastDark 71 = .ok (.iload_n 3, 1) := by decide +kernel
theorem d_Search_leastDark_72 : decode b_Search_leastDark 72 = .ok (.aload_n 0, 1) := by decide +kernel
theorem d_Search_leastDark_73 : decode b_Search_leastDark 73 = .ok (.getfield 159, 3) := by decide +kernel
theorem d_Search_leastDark_76 : decode b_Search_leastDark 76 = .ok (.isub, 1) := by decide +kernel
theorem d_Search_leastDark_77 : decode b_Search_leastDark 77 = .ok (.iload 4, 2) := by decide +kernel
theorem d_Search_leastDark_79 : decode b_Search_leastDark 79 = .ok (.aload_n 0, 1) := by decide +kernel
theorem d_Search_leastDark_80 : decode b_Search_leastDark 80 = .ok (.getfield 162, 3) := by decide +kernel
theorem d_Search_leastDark_83 : decode b_Search_leastDark 83 = .ok (.isub, 1) := by decide +kernel
theorem d_Search_leastDark_84 : decode b_Search_leastDark 84 = .ok (.invokevirtual 165, 3) := by decide +kernel
theorem d_Search_leastDark_87 : decode b_Search_leastDark 87 = .ok (.istore 7, 2) := by decide +kernel
theorem d_Search_leastDark_89 : decode b_Search_leastDark 89 = .ok (.iload 5, 2) := by decide +kernel
theorem d_Search_leastDark_91 : decode b_Search_leastDark 91 = .ok (.iload 6, 2) := by decide +kernel
theorem d_Search_leastDark_93 : decode b_Search_leastDark 93 = .ok (.isub, 1) := by decide +kernel
theorem d_Search_leastDark_94 : decode b_Search_leastDark 94 = .ok (.iload 7, 2) := by decide +kernel
theorem d_Search_leastDark_96 : decode b_Search_leastDark 96 = .ok (.invokestatic 108, 3) := by decide +kernel
theorem d_Search_leastDark_99 : decode b_Search_leastDark 99 = .ok (.ireturn, 1) := by decide +kernel
end
section
set_option maxHeartbeats 4000000 in
set_option maxRecDepth 100000 in
theorem c_lowest (l : Launch) (dC : Nat → ClassId) (dI : Nat → Nat → Nat) (a0 : Int32) (k : Int) (g0 : a0.toInt = k) (hk : 0 ≤ k) : Met l y_Paper_lowest (.code y_Paper_lowest b_Paper_lowest 1 (some .long) :: allw) ({ frames := 0, cells := 0, slots := 0, locals := 0 }) (va_Pc [.int a0] (ro_B (dC, dI) vwCl [] [])) (va_Ql (fun (r : Int64) (_ : Unit) => ∀ i, i < 64 → lb r i = decide ((i : Int) < k)) (fun _ _ => True) (fun _ => False)) 0 0 (fun _ => False) := by
  refine Met.ofW (cc := b_Paper_lowest) (maxL := 1) (ret := (some .long)) (by decide) rfl ?_
  intro p e s m args below meth c s₁ B hml hv
  obtain ⟨rfl, hP, hK⟩ := hv
  have hx := B.exec
  have hb := B.bytes
  have hr := B.returns
  have hts : ∀ w ∈ allw, w.before _ s = true := fun w h => atoms_spec (ws := .code y_Paper_lowest b_Paper_lowest 1 (some .long) :: allw) B.pre w (List.mem_cons_of_mem _ h)
  have hown : s.vm.findClass R_Paper = some m.cls := findClass_of_methodNamed B.named
  have hlocks := B.notSynchronized
  have hS : va_S (fun _ => False) s.heap s.heap [] := va_S.rf
  have hP : va_P (dC, dI) vwCl [] s.heap := hP
  have hl := lv_entry ([.int a0]) (n := 1) (Nat.le_of_ble_eq_true rfl)
  rw [lg_entry_eq]
  generalize (lg_sl ([.int a0]) ++ List.replicate (1 - (lg_sl ([.int a0])).length) Slot.unset).toArray = ls at hl ⊢
  have hl : lv_has ls 1 [(0, .int a0)] := hl
  refine lv_iload_n hx hb d_Paper_lowest_0 rfl (lv_at hl 0 rfl) ?_
  refine lv_bipush (v := 64) hx hb d_Paper_lowest_1 (by decide) ?_
  refine lv_icmp_lt (tgt := 12) hx hb d_Paper_lowest_3 (by decide) (fun c3 => ?_) (fun c3 => ?_)
  · skip
    have c3 : k < 64 := (ti_lt g0 (ti_k (by decide))).mp c3
    refine lv_lconst (v := 1) hx hb d_Paper_lowest_12 (by decide) ?_
    refine lv_iload_n hx hb d_Paper_lowest_13 rfl (lv_at hl 0 rfl) ?_
    refine lv_lshl hx hb d_Paper_lowest_14 rfl ?_
    refine lv_topl (fun v14 e14 => ?_)
    refine lv_lconst (v := 1) hx hb d_Paper_lowest_15 (by decide) ?_
    refine lv_lsub hx hb d_Paper_lowest_16 ?_
    refine lv_topl (fun v16 e16 => ?_)
    have hpost : ∀ i, i < 64 → lb v16 i = decide ((i : Int) < k) := by
      intro i hi
      rw [e16, e14]
      exact lo_some g0 hk c3 hi
    exact W.lret (v := v16) hx hb hr (fun t ht hW => ⟨⟨v16, (), rfl, hpost, trivial⟩, hS.F ht⟩) hS.2.2 d_Paper_lowest_17
  · skip
    have c3 : ¬ (k < 64) := fun q => c3 ((ti_lt g0 (ti_k (by decide))).mpr q)
    refine lv_ldc2 (v := (-1)) hx hb hown (hts _ wd_276) d_Paper_lowest_6 ?_
    refine lv_goto (tgt := 17) hx hb d_Paper_lowest_9 (by decide) ?_
    have hpost : ∀ i, i < 64 → lb (-1) i = decide ((i : Int) < k) := by
      intro i hi
      exact lo_all c3 hi
    exact W.lret (v := (-1)) hx hb hr (fun t ht hW => ⟨⟨(-1), (), rfl, hpost, trivial⟩, hS.F ht⟩) hS.2.2 d_Paper_lowest_17

set_option maxHeartbeats 4000000 in
set_option maxRecDepth 100000 in
theorem c_countSummed (l : Launch) (dC : Nat → ClassId) (dI : Nat → Nat → Nat) (hp hw hs : Nat) (kS : ClassId) (pw ph psr : Int32) (fs : Nat → Int32) (Wd Ht : Int) (D : Int → Int → Bool) (hpw : pw.toInt = Wd) (hph : ph.toInt = Ht) (hW1 : 1 ≤ Wd) (hW2 : Wd ≤ 512) (hH1 : 1 ≤ Ht) (hH2 : Ht ≤ 512) (hsum : ∀ x y, 0 ≤ x → x ≤ Wd → 0 ≤ y → y ≤ Ht → (fs (y * 513 + x).toNat).toInt = cI D 0 0 x y) (a1 a2 a3 a4 : Int32) (x y w h : Int) (g1 : a1.toInt = x) (g2 : a2.toInt = y) (g3 : a3.toInt = w) (g4 : a4.toInt = h) : Met l y_Paper_countSummed (.code y_Paper_countSummed b_Paper_countSummed 7 (some .int) :: allw) ({ frames := 0, cells := 0, slots := 0, locals := 0 }) (va_Pc [.ref hp, .int a1, .int a2, .int a3, .int a4] (ro_B (dC, dI) vwCl [(hp, .inr (0, [.int pw, .int ph, .ref hw, .ref hs, .int psr])), (hs, .inl (kS, 263169, .inl fs))] [(kS, .int)])) (va_Qi (fun (r : Int32) (_ : Unit) => r.toInt = cS D Wd Ht x y w h) (fun _ _ => True) (fun _ => False)) 0 0 (fun _ => False) := by
  refine Met.ofW (cc := b_Paper_countSummed) (maxL := 7) (ret := (some .int)) (by decide) rfl ?_
  intro p e s m args below meth c s₁ B hml hv
  obtain ⟨rfl, hP, hK⟩ := hv
  have hx := B.exec
  have hb := B.bytes
  have hr := B.returns
  have hts : ∀ w ∈ allw, w.before _ s = true := fun w h => atoms_spec (ws := .code y_Paper_countSummed b_Paper_countSummed 7 (some .int) :: allw) B.pre w (List.mem_cons_of_mem _ h)
  have hown : s.vm.findClass R_Paper = some m.cls := findClass_of_methodNamed B.named
  have hlocks := B.notSynchronized
  have hS : va_S (fun _ => False) s.heap s.heap [] := va_S.rf
  have hP : va_P (dC, dI) vwCl [(hp, .inr (0, [.int pw, .int ph, .ref hw, .ref hs, .int psr])), (hs, .inl (kS, 263169, .inl fs))] s.heap := hP
  have hl := lv_entry ([.ref hp, .int a1, .int a2, .int a3, .int a4]) (n := 7) (Nat.le_of_ble_eq_true rfl)
  rw [lg_entry_eq]
  generalize (lg_sl ([.ref hp, .int a1, .int a2, .int a3, .int a4]) ++ List.replicate (7 - (lg_sl ([.ref hp, .int a1, .int a2, .int a3, .int a4])).length) Slot.unset).toArray = ls at hl ⊢
  have hl : lv_has ls 7 [(0, .ref hp), (1, .int a1), (2, .int a2), (3, .int a3), (4, .int a4)] := hl
  have q1 := ti_rng a1
  have q2 := ti_rng a2
  have q3 := ti_rng a3
  have q4 := ti_rng a4
  refine lv_iload_n hx hb d_Paper_countSummed_0 rfl (lv_at hl 3 rfl) ?_
  refine lv_if_le (tgt := 38) hx hb d_Paper_countSummed_1 (by decide) (fun c1 => ?_) (fun c1 => ?_)
  · skip
    have c1 : w ≤ 0 := (ti_le g3 (ti_k (by decide))).mp c1
    refine lv_iconst (v := 0) hx hb d_Paper_countSummed_38 (by decide) ?_
    have hpost : (0 : Int32).toInt = cS D Wd Ht x y w h := by
      rw [cS_out (by omega)]; rfl
    exact W.iret (v := 0) hx hb hr (fun t ht hW => ⟨⟨0, (), rfl, hpost, trivial⟩, hS.F ht⟩) hS.2.2 d_Paper_countSummed_39
  · skip
    have c1 : ¬ (w ≤ 0) := fun q => c1 ((ti_le g3 (ti_k (by decide))).mpr q)
    refine lv_iload hx hb d_Paper_countSummed_4 (lv_at hl 4 rfl) ?_
    refine lv_if_le (tgt := 38) hx hb d_Paper_countSummed_6 (by decide) (fun c6 => ?_) (fun c6 => ?_)
    · skip
      have c6 : h ≤ 0 := (ti_le g4 (ti_k (by decide))).mp c6
      refine lv_iconst (v := 0) hx hb d_Paper_countSummed_38 (by decide) ?_
      have hpost : (0 : Int32).toInt = cS D Wd Ht x y w h := by
        rw [cS_out (by omega)]; rfl
      exact W.iret (v := 0) hx hb hr (fun t ht hW => ⟨⟨0, (), rfl, hpost, trivial⟩, hS.F ht⟩) hS.2.2 d_Paper_countSummed_39
    · skip
      have c6 : ¬ (h ≤ 0) := fun q => c6 ((ti_le g4 (ti_k (by decide))).mpr q)
      refine lv_iload_n hx hb d_Paper_countSummed_9 rfl (lv_at hl 1 rfl) ?_
      refine lv_if_lt (tgt := 38) hx hb d_Paper_countSummed_10 (by decide) (fun c10 => ?_) (fun c10 => ?_)
      · skip
        have c10 : x < 0 := (ti_lt g1 (ti_k (by decide))).mp c10
        refine lv_iconst (v := 0) hx hb d_Paper_countSummed_38 (by decide) ?_
        have hpost : (0 : Int32).toInt = cS D Wd Ht x y w h := by
          rw [cS_out (by omega)]; rfl
        exact W.iret (v := 0) hx hb hr (fun t ht hW => ⟨⟨0, (), rfl, hpost, trivial⟩, hS.F ht⟩) hS.2.2 d_Paper_countSummed_39
      · skip
        have c10 : ¬ (x < 0) := fun q => c10 ((ti_lt g1 (ti_k (by decide))).mpr q)
        refine lv_iload_n hx hb d_Paper_countSummed_13 rfl (lv_at hl 2 rfl) ?_
        refine lv_if_lt (tgt := 38) hx hb d_Paper_countSummed_14 (by decide) (fun c14 => ?_) (fun c14 => ?_)
        · skip
          have c14 : y < 0 := (ti_lt g2 (ti_k (by decide))).mp c14
          refine lv_iconst (v := 0) hx hb d_Paper_countSummed_38 (by decide) ?_
          have hpost : (0 : Int32).toInt = cS D Wd Ht x y w h := by
            rw [cS_out (by omega)]; rfl
          exact W.iret (v := 0) hx hb hr (fun t ht hW => ⟨⟨0, (), rfl, hpost, trivial⟩, hS.F ht⟩) hS.2.2 d_Paper_countSummed_39
        · skip
          have c14 : ¬ (y < 0) := fun q => c14 ((ti_lt g2 (ti_k (by decide))).mpr q)
          refine lv_iload_n hx hb d_Paper_countSummed_17 rfl (lv_at hl 1 rfl) ?_
          refine lv_aload_n hx hb d_Paper_countSummed_18 rfl (lv_at hl 0 rfl) ?_
          refine va_get (D := (dC, dI)) (ci := 0) (v := .int pw) (C := R_Paper) (T := T_Paper) (N := 5) hx hb hts i_Paper hown hK hP 0 rfl rfl 0 (by decide) (hts _ wd_37) (fun _ h9 => h9) rfl d_Paper_countSummed_19 ?_
          refine lv_iload_n hx hb d_Paper_countSummed_22 rfl (lv_at hl 3 rfl) ?_
          refine lv_isub hx hb d_Paper_countSummed_23 ?_
          refine lv_topi (fun v23 e23 => ?_)
          have h23 : v23.toInt = Wd - w := by rw [e23]; exact ti_sub hpw g3 (by omega) (by omega)
          refine lv_icmp_gt (tgt := 38) hx hb d_Paper_countSummed_24 (by decide) (fun c24 => ?_) (fun c24 => ?_)
          · skip
            have c24 : (Wd - w) < x := (ti_lt h23 g1).mp c24
            refine lv_iconst (v := 0) hx hb d_Paper_countSummed_38 (by decide) ?_
            have hpost : (0 : Int32).toInt = cS D Wd Ht x y w h := by
              rw [cS_out (by omega)]; rfl
            exact W.iret (v := 0) hx hb hr (fun t ht hW => ⟨⟨0, (), rfl, hpost, trivial⟩, hS.F ht⟩) hS.2.2 d_Paper_countSummed_39
          · skip
            have c24 : ¬ ((Wd - w) < x) := fun q => c24 ((ti_lt h23 g1).mpr q)
            refine lv_iload_n hx hb d_Paper_countSummed_27 rfl (lv_at hl 2 rfl) ?_
            refine lv_aload_n hx hb d_Paper_countSummed_28 rfl (lv_at hl 0 rfl) ?_
            refine va_get (D := (dC, dI)) (ci := 0) (v := .int ph) (C := R_Paper) (T := T_Paper) (N := 5) hx hb hts i_Paper hown hK hP 0 rfl rfl 1 (by decide) (hts _ wd_40) (fun _ h9 => h9) rfl d_Paper_countSummed_29 ?_
            refine lv_iload hx hb d_Paper_countSummed_32 (lv_at hl 4 rfl) ?_
            refine lv_isub hx hb d_Paper_countSummed_34 ?_
            refine lv_topi (fun v34 e34 => ?_)
            have h34 : v34.toInt = Ht - h := by rw [e34]; exact ti_sub hph g4 (by omega) (by omega)
            refine lv_icmp_le (tgt := 40) hx hb d_Paper_countSummed_35 (by decide) (fun c35 => ?_) (fun c35 => ?_)
            · skip
              have c35 : y ≤ (Ht - h) := (ti_le g2 h34).mp c35
              refine lv_iload_n hx hb d_Paper_countSummed_40 rfl (lv_at hl 2 rfl) ?_
              refine lv_sipush (v := 513) hx hb d_Paper_countSummed_41 (by decide) ?_
              refine lv_imul hx hb d_Paper_countSummed_44 ?_
              refine lv_topi (fun v44 e44 => ?_)
              have h44 : v44.toInt = y * 513 := by rw [e44]; exact ti_mul g2 (ti_k (by decide)) (by omega) (by omega)
              refine lv_iload_n hx hb d_Paper_countSummed_45 rfl (lv_at hl 1 rfl) ?_
              refine lv_iadd hx hb d_Paper_countSummed_46 ?_
              refine lv_topi (fun v46 e46 => ?_)
              have h46 : v46.toInt = (y * 513) + x := by rw [e46]; exact ti_add h44 g1 (by omega) (by omega)
              refine lv_istore (lv' := [(5, .int v46), (0, .ref hp), (1, .int a1), (2, .int a2), (3, .int a3), (4, .int a4)]) hx hb d_Paper_countSummed_47 hl (by decide) rfl (fun ls hl => ?_)
              refine lv_iload hx hb d_Paper_countSummed_49 (lv_at hl 0 rfl) ?_
              refine lv_iload hx hb d_Paper_countSummed_51 (lv_at hl 5 rfl) ?_
              refine lv_sipush (v := 513) hx hb d_Paper_countSummed_53 (by decide) ?_
              refine lv_imul hx hb d_Paper_countSummed_56 ?_
              refine lv_topi (fun v56 e56 => ?_)
              have h56 : v56.toInt = h * 513 := by rw [e56]; exact ti_mul g4 (ti_k (by decide)) (by omega) (by omega)
              refine lv_iadd hx hb d_Paper_countSummed_57 ?_
              refine lv_topi (fun v57 e57 => ?_)
              have h57 : v57.toInt = ((y * 513) + x) + (h * 513) := by rw [e57]; exact ti_add h46 h56 (by omega) (by omega)
              refine lv_istore (lv' := [(6, .int v57), (5, .int v46), (0, .ref hp), (1, .int a1), (2, .int a2), (3, .int a3), (4, .int a4)]) hx hb d_Paper_countSummed_58 hl (by decide) rfl (fun ls hl => ?_)
              have s1 := hsum (x + w) (y + h) (by omega) (by omega) (by omega) (by omega)
              have s2 := hsum x (y + h) (by omega) (by omega) (by omega) (by omega)
              have s3 := hsum (x + w) y (by omega) (by omega) (by omega) (by omega)
              have s4 := hsum x y (by omega) (by omega) (by omega) (by omega)
              have b1 := cI_le D 0 0 (w := x + w) (h := y + h) (by omega) (by omega)
              have b2 := cI_le D 0 0 (w := x) (h := y + h) (by omega) (by omega)
              have b3 := cI_le D 0 0 (w := x + w) (h := y) (by omega) (by omega)
              have b4 := cI_le D 0 0 (w := x) (h := y) (by omega) (by omega)
              have m1 := mul_b (a := x + w) (b := y + h) (n := 512) (by omega) (by omega) (by omega) (by omega)
              have m2 := mul_b (a := x) (b := y + h) (n := 512) (by omega) (by omega) (by omega) (by omega)
              have m3 := mul_b (a := x + w) (b := y) (n := 512) (by omega) (by omega) (by omega) (by omega)
              have m4 := mul_b (a := x) (b := y) (n := 512) (by omega) (by omega) (by omega) (by omega)
              have n1 := cI_nn D 0 0 (x + w) (y + h)
              have n2 := cI_nn D 0 0 x (y + h)
              have n3 := cI_nn D 0 0 (x + w) y
              have n4 := cI_nn D 0 0 x y
              have t4 := cI_four (D := D) (x := x) (y := y) (w := w) (h := h) (by omega) (by omega) (by omega) (by omega)
              refine lv_aload_n hx hb d_Paper_countSummed_60 rfl (lv_at hl 2 rfl) ?_
              refine va_get (D := (dC, dI)) (ci := 0) (v := .ref hs) (C := R_Paper) (T := T_Paper) (N := 5) hx hb hts i_Paper hown hK hP 0 rfl rfl 3 (by decide) (hts _ wd_44) (fun _ h9 => h9) rfl d_Paper_countSummed_61 ?_
              refine lv_iload hx hb d_Paper_countSummed_64 (lv_at hl 0 rfl) ?_
              refine lv_iload_n hx hb d_Paper_countSummed_66 rfl (lv_at hl 5 rfl) ?_
              refine lv_iadd hx hb d_Paper_countSummed_67 ?_
              refine lv_topi (fun v67 e67 => ?_)
              have h67 : v67.toInt = (((y * 513) + x) + (h * 513)) + w := by rw [e67]; exact ti_add h57 g3 (by omega) (by omega)
              have in68 : vp_in v67 263169 := vi_in h67 (by omega) (by omega)
              refine va_iald hx hb hK hP 1 0 rfl rfl in68 d_Paper_countSummed_68 ?_
              refine lv_topi (fun v68 e68 => ?_)
              have e68 : v68 = fs (((((y * 513) + x) + (h * 513)) + w)).toNat := by rw [e68, vi_cl h67]
              have h68 : v68.toInt = cI D 0 0 (x + w) (y + h) := by rw [e68, ← s1]; congr 2; omega
              refine lv_aload_n hx hb d_Paper_countSummed_69 rfl (lv_at hl 2 rfl) ?_
              refine va_get (D := (dC, dI)) (ci := 0) (v := .ref hs) (C := R_Paper) (T := T_Paper) (N := 5) hx hb hts i_Paper hown hK hP 0 rfl rfl 3 (by decide) (hts _ wd_44) (fun _ h9 => h9) rfl d_Paper_countSummed_70 ?_
              refine lv_iload hx hb d_Paper_countSummed_73 (lv_at hl 0 rfl) ?_
              have in75 : vp_in v57 263169 := vi_in h57 (by omega) (by omega)
              refine va_iald hx hb hK hP 1 0 rfl rfl in75 d_Paper_countSummed_75 ?_
              refine lv_topi (fun v75 e75 => ?_)
              have e75 : v75 = fs ((((y * 513) + x) + (h * 513))).toNat := by rw [e75, vi_cl h57]
              have h75 : v75.toInt = cI D 0 0 x (y + h) := by rw [e75, ← s2]; congr 2; omega
              refine lv_isub hx hb d_Paper_countSummed_76 ?_
              refine lv_topi (fun v76 e76 => ?_)
              have h76 : v76.toInt = cI D 0 0 (x + w) (y + h) - cI D 0 0 x (y + h) := by rw [e76]; exact ti_sub h68 h75 (by omega) (by omega)
              refine lv_aload_n hx hb d_Paper_countSummed_77 rfl (lv_at hl 2 rfl) ?_
              refine va_get (D := (dC, dI)) (ci := 0) (v := .ref hs) (C := R_Paper) (T := T_Paper) (N := 5) hx hb hts i_Paper hown hK hP 0 rfl rfl 3 (by decide) (hts _ wd_44) (fun _ h9 => h9) rfl d_Paper_countSummed_78 ?_
              refine lv_iload hx hb d_Paper_countSummed_81 (lv_at hl 1 rfl) ?_
              refine lv_iload_n hx hb d_Paper_countSummed_83 rfl (lv_at hl 5 rfl) ?_
              refine lv_iadd hx hb d_Paper_countSummed_84 ?_
              refine lv_topi (fun v84 e84 => ?_)
              have h84 : v84.toInt = ((y * 513) + x) + w := by rw [e84]; exact ti_add h46 g3 (by omega) (by omega)
              have in85 : vp_in v84 263169 := vi_in h84 (by omega) (by omega)
              refine va_iald hx hb hK hP 1 0 rfl rfl in85 d_Paper_countSummed_85 ?_
              refine lv_topi (fun v85 e85 => ?_)
              have e85 : v85 = fs ((((y * 513) + x) + w)).toNat := by rw [e85, vi_cl h84]
              have h85 : v85.toInt = cI D 0 0 (x + w) y := by rw [e85, ← s3]; congr 2; omega
              refine lv_isub hx hb d_Paper_countSummed_86 ?_
              refine lv_topi (fun v86 e86 => ?_)
              have h86 : v86.toInt = (cI D 0 0 (x + w) (y + h) - cI D 0 0 x (y + h)) - cI D 0 0 (x + w) y := by rw [e86]; exact ti_sub h76 h85 (by omega) (by omega)
              refine lv_aload_n hx hb d_Paper_countSummed_87 rfl (lv_at hl 2 rfl) ?_
              refine va_get (D := (dC, dI)) (ci := 0) (v := .ref hs) (C := R_Paper) (T := T_Paper) (N := 5) hx hb hts i_Paper hown hK hP 0 rfl rfl 3 (by decide) (hts _ wd_44) (fun _ h9 => h9) rfl d_Paper_countSummed_88 ?_
              refine lv_iload hx hb d_Paper_countSummed_91 (lv_at hl 1 rfl) ?_
              have in93 : vp_in v46 263169 := vi_in h46 (by omega) (by omega)
              refine va_iald hx hb hK hP 1 0 rfl rfl in93 d_Paper_countSummed_93 ?_
              refine lv_topi (fun v93 e93 => ?_)
              have e93 : v93 = fs (((y * 513) + x)).toNat := by rw [e93, vi_cl h46]
              have h93 : v93.toInt = cI D 0 0 x y := by rw [e93, ← s4]
              refine lv_iadd hx hb d_Paper_countSummed_94 ?_
              refine lv_topi (fun v94 e94 => ?_)
              have h94 : v94.toInt = ((cI D 0 0 (x + w) (y + h) - cI D 0 0 x (y + h)) - cI D 0 0 (x + w) y) + cI D 0 0 x y := by rw [e94]; exact ti_add h86 h93 (by omega) (by omega)
              have hpost : (v94 : Int32).toInt = cS D Wd Ht x y w h := by
                rw [cS_in (by omega), h94]; omega
              exact W.iret (v := v94) hx hb hr (fun t ht hW => ⟨⟨v94, (), rfl, hpost, trivial⟩, hS.F ht⟩) hS.2.2 d_Paper_countSummed_95
            · skip
              have c35 : ¬ (y ≤ (Ht - h)) := fun q => c35 ((ti_le g2 h34).mpr q)
              refine lv_iconst (v := 0) hx hb d_Paper_countSummed_38 (by decide) ?_
              have hpost : (0 : Int32).toInt = cS D Wd Ht x y w h := by
                rw [cS_out (by omega)]; rfl
              exact W.iret (v := 0) hx hb hr (fun t ht hW => ⟨⟨0, (), rfl, hpost, trivial⟩, hS.F ht⟩) hS.2.2 d_Paper_countSummed_39

set_option maxHeartbeats 4000000 in
set_option maxRecDepth 100000 in
theorem c_bits (l : Launch) (dC : Nat → ClassId) (dI : Nat → Nat → Nat) (hp hw hs : Nat) (kW kS : ClassId) (pw ph psr : Int32) (fw : Nat → Int64) (fs : Nat → Int32) (Wd Ht : Int) (D : Int → Int → Bool) (hpw : pw.toInt = Wd) (hph : ph.toInt = Ht) (hW1 : 1 ≤ Wd) (hW2 : Wd ≤ 512) (hH1 : 1 ≤ Ht) (hH2 : Ht ≤ 512) (hbits : ∀ x y, 0 ≤ x → x < 512 → 0 ≤ y → y < 512 → lb (fw (y * 8 + x / 64).toNat) (x % 64).toNat = D x y) (hsup : ∀ x y, D x y = true → 0 ≤ x ∧ x < Wd ∧ 0 ≤ y ∧ y < Ht) (a1 a2 : Int32) (x y : Int) (g1 : a1.toInt = x) (g2 : a2.toInt = y) : Met l y_Paper_bits (.code y_Paper_bits b_Paper_bits 8 (some .long) :: allw) ({ frames := 0, cells := 0, slots := 0, locals := 0 }) (va_Pc [.ref hp, .int a1, .int a2] (ro_B (dC, dI) vwCl [(hp, .inr (0, [.int pw, .int ph, .ref hw, .ref hs, .int psr])), (hw, .inl (kW, 4096, .inr (.inl fw))), (hs, .inl (kS, 263169, .inl fs))] [(kW, .long), (kS, .int)])) (va_Ql (fun (r : Int64) (_ : Unit) => ∀ i, i < 64 → lb r i = D (x + i) y) (fun _ _ => True) (fun _ => False)) 0 0 (fun _ => False) := by
  refine Met.ofW (cc := b_Paper_bits) (maxL := 8) (ret := (some .long)) (by decide) rfl ?_
  intro p e s m args below meth c s₁ B hml hv
  obtain ⟨rfl, hP, hK⟩ := hv
  have hx := B.exec
  have hb := B.bytes
  have hr := B.returns
  have hts : ∀ w ∈ allw, w.before _ s = true := fun w h => atoms_spec (ws := .code y_Paper_bits b_Paper_bits 8 (some .long) :: allw) B.pre w (List.mem_cons_of_mem _ h)
  have hown : s.vm.findClass R_Paper = some m.cls := findClass_of_methodNamed B.named
  have hlocks := B.notSynchronized
  have hS : va_S (fun _ => False) s.heap s.heap [] := va_S.rf
  have hP : va_P (dC, dI) vwCl [(hp, .inr (0, [.int pw, .int ph, .ref hw, .ref hs, .int psr])), (hw, .inl (kW, 4096, .inr (.inl fw))), (hs, .inl (kS, 263169, .inl fs))] s.heap := hP
  have hl := lv_entry ([.ref hp, .int a1, .int a2]) (n := 8) (Nat.le_of_ble_eq_true rfl)
  rw [lg_entry_eq]
  generalize (lg_sl ([.ref hp, .int a1, .int a2]) ++ List.replicate (8 - (lg_sl ([.ref hp, .int a1, .int a2])).length) Slot.unset).toArray = ls at hl ⊢
  have hl : lv_has ls 8 [(0, .ref hp), (1, .int a1), (2, .int a2)] := hl
  have q1 := ti_rng a1
  have q2 := ti_rng a2
  refine lv_iload_n hx hb d_Paper_bits_0 rfl (lv_at hl 2 rfl) ?_
  refine lv_if_lt (tgt := 26) hx hb d_Paper_bits_1 (by decide) (fun c1 => ?_) (fun c1 => ?_)
  · skip
    have c1 : y < 0 := (ti_lt g2 (ti_k (by decide))).mp c1
    refine lv_lconst (v := 0) hx hb d_Paper_bits_26 (by decide) ?_
    have hpost : ∀ i, i < 64 → lb 0 i = D (x + i) y := by
      intro i hi
      rw [lb_0]; exact (D_f hsup (by omega)).symm
    exact W.lret (v := 0) hx hb hr (fun t ht hW => ⟨⟨0, (), rfl, hpost, trivial⟩, hS.F ht⟩) hS.2.2 d_Paper_bits_27
  · skip
    have c1 : ¬ (y < 0) := fun q => c1 ((ti_lt g2 (ti_k (by decide))).mpr q)
    refine lv_iload_n hx hb d_Paper_bits_4 rfl (lv_at hl 2 rfl) ?_
    refine lv_aload_n hx hb d_Paper_bits_5 rfl (lv_at hl 0 rfl) ?_
    refine va_get (D := (dC, dI)) (ci := 0) (v := .int ph) (C := R_Paper) (T := T_Paper) (N := 5) hx hb hts i_Paper hown hK hP 0 rfl rfl 1 (by decide) (hts _ wd_40) (fun _ h9 => h9) rfl d_Paper_bits_6 ?_
    refine lv_icmp_ge (tgt := 26) hx hb d_Paper_bits_9 (by decide) (fun c9 => ?_) (fun c9 => ?_)
    · skip
      have c9 : Ht ≤ y := (ti_le hph g2).mp c9
      refine lv_lconst (v := 0) hx hb d_Paper_bits_26 (by decide) ?_
      have hpost : ∀ i, i < 64 → lb 0 i = D (x + i) y := by
        intro i hi
        rw [lb_0]; exact (D_f hsup (by omega)).symm
      exact W.lret (v := 0) hx hb hr (fun t ht hW => ⟨⟨0, (), rfl, hpost, trivial⟩, hS.F ht⟩) hS.2.2 d_Paper_bits_27
    · skip
      have c9 : ¬ (Ht ≤ y) := fun q => c9 ((ti_le hph g2).mpr q)
      refine lv_iload_n hx hb d_Paper_bits_12 rfl (lv_at hl 1 rfl) ?_
      refine lv_bipush (v := (-64)) hx hb d_Paper_bits_13 (by decide) ?_
      refine lv_icmp_le (tgt := 26) hx hb d_Paper_bits_15 (by decide) (fun c15 => ?_) (fun c15 => ?_)
      · skip
        have c15 : x ≤ (-64) := (ti_le g1 (ti_k (by decide))).mp c15
        refine lv_lconst (v := 0) hx hb d_Paper_bits_26 (by decide) ?_
        have hpost : ∀ i, i < 64 → lb 0 i = D (x + i) y := by
          intro i hi
          rw [lb_0]; exact (D_f hsup (by omega)).symm
        exact W.lret (v := 0) hx hb hr (fun t ht hW => ⟨⟨0, (), rfl, hpost, trivial⟩, hS.F ht⟩) hS.2.2 d_Paper_bits_27
      · skip
        have c15 : ¬ (x ≤ (-64)) := fun q => c15 ((ti_le g1 (ti_k (by decide))).mpr q)
        refine lv_iload_n hx hb d_Paper_bits_18 rfl (lv_at hl 1 rfl) ?_
        refine lv_aload_n hx hb d_Paper_bits_19 rfl (lv_at hl 0 rfl) ?_
        refine va_get (D := (dC, dI)) (ci := 0) (v := .int pw) (C := R_Paper) (T := T_Paper) (N := 5) hx hb hts i_Paper hown hK hP 0 rfl rfl 0 (by decide) (hts _ wd_37) (fun _ h9 => h9) rfl d_Paper_bits_20 ?_
        refine lv_icmp_lt (tgt := 28) hx hb d_Paper_bits_23 (by decide) (fun c23 => ?_) (fun c23 => ?_)
        · skip
          have c23 : x < Wd := (ti_lt g1 hpw).mp c23
          refine lv_iload_n hx hb d_Paper_bits_28 rfl (lv_at hl 2 rfl) ?_
          refine lv_bipush (v := 8) hx hb d_Paper_bits_29 (by decide) ?_
          refine lv_imul hx hb d_Paper_bits_31 ?_
          refine lv_topi (fun v31 e31 => ?_)
          have h31 : v31.toInt = y * 8 := by rw [e31]; exact ti_mul g2 (ti_k (by decide)) (by omega) (by omega)
          refine lv_istore_n (lv' := [(3, .int v31), (0, .ref hp), (1, .int a1), (2, .int a2)]) hx hb d_Paper_bits_32 rfl hl (by decide) rfl (fun ls hl => ?_)
          refine lv_iload_n hx hb d_Paper_bits_33 rfl (lv_at hl 2 rfl) ?_
          refine lv_if_ge (tgt := 47) hx hb d_Paper_bits_34 (by decide) (fun c34 => ?_) (fun c34 => ?_)
          · skip
            have c34 : 0 ≤ x := (ti_le (ti_k (by decide)) g1).mp c34
            refine lv_iload_n hx hb d_Paper_bits_47 rfl (lv_at hl 2 rfl) ?_
            refine lv_bipush (v := 6) hx hb d_Paper_bits_48 (by decide) ?_
            refine lv_ishr hx hb d_Paper_bits_50 ?_
            refine lv_topi (fun v50 e50 => ?_)
            have h50 : v50.toInt = x / 64 := by rw [e50]; exact ti_shr6 g1
            refine lv_istore (lv' := [(4, .int v50), (3, .int v31), (0, .ref hp), (1, .int a1), (2, .int a2)]) hx hb d_Paper_bits_51 hl (by decide) rfl (fun ls hl => ?_)
            refine lv_iload_n hx hb d_Paper_bits_53 rfl (lv_at hl 3 rfl) ?_
            refine lv_bipush (v := 63) hx hb d_Paper_bits_54 (by decide) ?_
            refine lv_iand hx hb d_Paper_bits_56 ?_
            refine lv_topi (fun v56 e56 => ?_)
            have h56 : v56.toInt = x % 64 := by rw [e56]; exact ti_and63 g1 (by omega)
            refine lv_istore (lv' := [(5, .int v56), (4, .int v50), (3, .int v31), (0, .ref hp), (1, .int a1), (2, .int a2)]) hx hb d_Paper_bits_57 hl (by decide) rfl (fun ls hl => ?_)
            refine lv_aload_n hx hb d_Paper_bits_59 rfl (lv_at hl 3 rfl) ?_
            refine va_get (D := (dC, dI)) (ci := 0) (v := .ref hw) (C := R_Paper) (T := T_Paper) (N := 5) hx hb hts i_Paper hown hK hP 0 rfl rfl 2 (by decide) (hts _ wd_43) (fun _ h9 => h9) rfl d_Paper_bits_60 ?_
            refine lv_iload_n hx hb d_Paper_bits_63 rfl (lv_at hl 2 rfl) ?_
            refine lv_iload hx hb d_Paper_bits_64 (lv_at hl 1 rfl) ?_
            refine lv_iadd hx hb d_Paper_bits_66 ?_
            refine lv_topi (fun v66 e66 => ?_)
            have h66 : v66.toInt = (y * 8) + (x / 64) := by rw [e66]; exact ti_add h31 h50 (by omega) (by omega)
            have in67 : vp_in v66 4096 := vi_in h66 (by omega) (by omega)
            refine va_lald hx hb hK hP 1 0 rfl rfl in67 d_Paper_bits_67 ?_
            refine lv_topl (fun v67 e67 => ?_)
            have e67 : v67 = fw (((y * 8) + (x / 64))).toNat := by rw [e67, vi_cl h66]
            have w67 : ∀ j, j < 64 → lb v67 j = D (x / 64 * 64 + j) y := fun j hj => by rw [e67]; exact bt_row hbits (by omega) (by omega) (by omega) (by omega) hj
            refine lv_iload hx hb d_Paper_bits_68 (lv_at hl 0 rfl) ?_
            refine lv_lushr hx hb d_Paper_bits_70 rfl ?_
            refine lv_topl (fun v70 e70 => ?_)
            refine lv_lstore (lv' := [(6, .long v70), (5, .int v56), (4, .int v50), (3, .int v31), (0, .ref hp), (1, .int a1), (2, .int a2)]) hx hb d_Paper_bits_71 hl (by decide) rfl (fun ls hl => ?_)
            refine lv_iload hx hb d_Paper_bits_73 (lv_at hl 1 rfl) ?_
            refine lv_if_eq (tgt := 109) hx hb d_Paper_bits_75 (by decide) (fun c75 => ?_) (fun c75 => ?_)
            · skip
              have c75 : (x % 64) = 0 := (ti_eq h56 (ti_k (by decide))).mp c75
              refine lv_lload hx hb d_Paper_bits_109 (lv_at hl 0 rfl) ?_
              have hpost : ∀ i, i < 64 → lb v70 i = D (x + i) y := by
                exact bits_A hsup hW2 w67 (fun i => by rw [e70]; exact lb_ushr h56 (by omega) (by omega) i) (by omega) (by omega)
              exact W.lret (v := v70) hx hb hr (fun t ht hW => ⟨⟨v70, (), rfl, hpost, trivial⟩, hS.F ht⟩) hS.2.2 d_Paper_bits_111
            · skip
              have c75 : ¬ ((x % 64) = 0) := fun q => c75 ((ti_eq h56 (ti_k (by decide))).mpr q)
              refine lv_iload hx hb d_Paper_bits_78 (lv_at hl 2 rfl) ?_
              refine lv_iconst (v := 1) hx hb d_Paper_bits_80 (by decide) ?_
              refine lv_iadd hx hb d_Paper_bits_81 ?_
              refine lv_topi (fun v81 e81 => ?_)
              have h81 : v81.toInt = (x / 64) + 1 := by rw [e81]; exact ti_add h50 (ti_k (by decide)) (by omega) (by omega)
              refine lv_bipush (v := 8) hx hb d_Paper_bits_82 (by decide) ?_
              refine lv_icmp_ge (tgt := 109) hx hb d_Paper_bits_84 (by decide) (fun c84 => ?_) (fun c84 => ?_)
              · skip
                have c84 : 8 ≤ ((x / 64) + 1) := (ti_le (ti_k (by decide)) h81).mp c84
                refine lv_lload hx hb d_Paper_bits_109 (lv_at hl 0 rfl) ?_
                have hpost : ∀ i, i < 64 → lb v70 i = D (x + i) y := by
                  exact bits_A hsup hW2 w67 (fun i => by rw [e70]; exact lb_ushr h56 (by omega) (by omega) i) (by omega) (by omega)
                exact W.lret (v := v70) hx hb hr (fun t ht hW => ⟨⟨v70, (), rfl, hpost, trivial⟩, hS.F ht⟩) hS.2.2 d_Paper_bits_111
              · skip
                have c84 : ¬ (8 ≤ ((x / 64) + 1)) := fun q => c84 ((ti_le (ti_k (by decide)) h81).mpr q)
                refine lv_lload hx hb d_Paper_bits_87 (lv_at hl 0 rfl) ?_
                refine lv_aload_n hx hb d_Paper_bits_89 rfl (lv_at hl 4 rfl) ?_
                refine va_get (D := (dC, dI)) (ci := 0) (v := .ref hw) (C := R_Paper) (T := T_Paper) (N := 5) hx hb hts i_Paper hown hK hP 0 rfl rfl 2 (by decide) (hts _ wd_43) (fun _ h9 => h9) rfl d_Paper_bits_90 ?_
                refine lv_iload_n hx hb d_Paper_bits_93 rfl (lv_at hl 3 rfl) ?_
                refine lv_iload hx hb d_Paper_bits_94 (lv_at hl 2 rfl) ?_
                refine lv_iadd hx hb d_Paper_bits_96 ?_
                refine lv_topi (fun v96 e96 => ?_)
                have h96 : v96.toInt = (y * 8) + (x / 64) := by rw [e96]; exact ti_add h31 h50 (by omega) (by omega)
                refine lv_iconst (v := 1) hx hb d_Paper_bits_97 (by decide) ?_
                refine lv_iadd hx hb d_Paper_bits_98 ?_
                refine lv_topi (fun v98 e98 => ?_)
                have h98 : v98.toInt = ((y * 8) + (x / 64)) + 1 := by rw [e98]; exact ti_add h96 (ti_k (by decide)) (by omega) (by omega)
                have in99 : vp_in v98 4096 := vi_in h98 (by omega) (by omega)
                refine va_lald hx hb hK hP 1 0 rfl rfl in99 d_Paper_bits_99 ?_
                refine lv_topl (fun v99 e99 => ?_)
                have e99 : v99 = fw ((((y * 8) + (x / 64)) + 1)).toNat := by rw [e99, vi_cl h98]
                have w99 : ∀ j, j < 64 → lb v99 j = D ((x / 64 + 1) * 64 + j) y := fun j hj => by rw [e99, Int.add_assoc]; exact bt_row hbits (by omega) (by omega) (by omega) (by omega) hj
                refine lv_bipush (v := 64) hx hb d_Paper_bits_100 (by decide) ?_
                refine lv_iload hx hb d_Paper_bits_102 (lv_at hl 1 rfl) ?_
                refine lv_isub hx hb d_Paper_bits_104 ?_
                refine lv_topi (fun v104 e104 => ?_)
                have h104 : v104.toInt = 64 - (x % 64) := by rw [e104]; exact ti_sub (ti_k (by decide)) h56 (by omega) (by omega)
                refine lv_lshl hx hb d_Paper_bits_105 rfl ?_
                refine lv_topl (fun v105 e105 => ?_)
                refine lv_lor hx hb d_Paper_bits_106 ?_
                refine lv_topl (fun v106 e106 => ?_)
                refine lv_lstore (lv' := [(6, .long v106), (5, .int v56), (4, .int v50), (3, .int v31), (0, .ref hp), (1, .int a1), (2, .int a2)]) hx hb d_Paper_bits_107 hl (by decide) rfl (fun ls hl => ?_)
                refine lv_lload hx hb d_Paper_bits_109 (lv_at hl 0 rfl) ?_
                have hpost : ∀ i, i < 64 → lb v106 i = D (x + i) y := by
                  exact bits_B (v := v70) (W := Wd) (H := Ht) w67 w99 (fun i => by rw [e70]; exact lb_ushr h56 (by omega) (by omega) i) (fun i hi => by rw [e106, lb_or, e105, lb_shl h104 (by omega) (by omega) hi]) (by omega) (by omega)
                exact W.lret (v := v106) hx hb hr (fun t ht hW => ⟨⟨v106, (), rfl, hpost, trivial⟩, hS.F ht⟩) hS.2.2 d_Paper_bits_111
          · skip
            have c34 : ¬ (0 ≤ x) := fun q => c34 ((ti_le (ti_k (by decide)) g1).mpr q)
            refine lv_aload_n hx hb d_Paper_bits_37 rfl (lv_at hl 1 rfl) ?_
            refine va_get (D := (dC, dI)) (ci := 0) (v := .ref hw) (C := R_Paper) (T := T_Paper) (N := 5) hx hb hts i_Paper hown hK hP 0 rfl rfl 2 (by decide) (hts _ wd_43) (fun _ h9 => h9) rfl d_Paper_bits_38 ?_
            refine lv_iload_n hx hb d_Paper_bits_41 rfl (lv_at hl 0 rfl) ?_
            have in42 : vp_in v31 4096 := vi_in h31 (by omega) (by omega)
            refine va_lald hx hb hK hP 1 0 rfl rfl in42 d_Paper_bits_42 ?_
            refine lv_topl (fun v42 e42 => ?_)
            have e42 : v42 = fw ((y * 8)).toNat := by rw [e42, vi_cl h31]
            have w42 : ∀ j, j < 64 → lb v42 j = D (j : Int) y := fun j hj => by have t := bt_row hbits (y := y) (k := 0) (by omega) (by omega) (by omega) (by omega) hj; rw [Int.add_zero, Int.zero_mul, Int.zero_add] at t; rw [e42]; exact t
            refine lv_iload_n hx hb d_Paper_bits_43 rfl (lv_at hl 2 rfl) ?_
            refine lv_ineg hx hb d_Paper_bits_44 ?_
            refine lv_topi (fun v44 e44 => ?_)
            have h44 : v44.toInt = -x := by rw [e44]; exact ti_neg g1 (by omega) (by omega)
            refine lv_lshl hx hb d_Paper_bits_45 rfl ?_
            refine lv_topl (fun v45 e45 => ?_)
            have hpost : ∀ i, i < 64 → lb v45 i = D (x + i) y := by
              intro i hi
              rw [e45, lb_shl h44 (by omega) (by omega) hi]
              by_cases q : (-x).toNat ≤ i
              · rw [decide_eq_true q, Bool.true_and, w42 _ (by omega)]; congr 1; omega
              · rw [decide_eq_false q, Bool.false_and]; exact (D_f hsup (by omega)).symm
            exact W.lret (v := v45) hx hb hr (fun t ht hW => ⟨⟨v45, (), rfl, hpost, trivial⟩, hS.F ht⟩) hS.2.2 d_Paper_bits_46
        · skip
          have c23 : ¬ (x < Wd) := fun q => c23 ((ti_lt g1 hpw).mpr q)
          refine lv_lconst (v := 0) hx hb d_Paper_bits_26 (by decide) ?_
          have hpost : ∀ i, i < 64 → lb 0 i = D (x + i) y := by
            intro i hi
            rw [lb_0]; exact (D_f hsup (by omega)).symm
          exact W.lret (v := 0) hx hb hr (fun t ht hW => ⟨⟨0, (), rfl, hpost, trivial⟩, hS.F ht⟩) hS.2.2 d_Paper_bits_27
end
section
set_option maxHeartbeats 4000000 in
set_option maxRecDepth 100000 in
theorem c_isRight (l : Launch) (dC : Nat → ClassId) (dI : Nat → Nat → Nat) (a0 : Int32) (k : Int) (g0 : a0.toInt = k) : Met l y_Search_isRight (.code y_Search_isRight b_Search_isRight 1 (some .boolean) :: allw) ({ frames := 0, cells := 0, slots := 0, locals := 0 }) (va_Pc [.int a0] (ro_B (dC, dI) vwCl [] [])) (va_Qi (fun (r : Int32) (_ : Unit) => isB r (k = 1 ∨ k = 2)) (fun _ _ => True) (fun _ => False)) 0 0 (fun _ => False) := by
  refine Met.ofW (cc := b_Search_isRight) (maxL := 1) (ret := (some .boolean)) (by decide) rfl ?_
  intro p e s m args below meth c s₁ B hml hv
  obtain ⟨rfl, hP, hK⟩ := hv
  have hx := B.exec
  have hb := B.bytes
  have hr := B.returns
  have hts : ∀ w ∈ allw, w.before _ s = true := fun w h => atoms_spec (ws := .code y_Search_isRight b_Search_isRight 1 (some .boolean) :: allw) B.pre w (List.mem_cons_of_mem _ h)
  have hown : s.vm.findClass R_Search = some m.cls := findClass_of_methodNamed B.named
  have hlocks := B.notSynchronized
  have hS : va_S (fun _ => False) s.heap s.heap [] := va_S.rf
  have hP : va_P (dC, dI) vwCl [] s.heap := hP
  have hl := lv_entry ([.int a0]) (n := 1) (Nat.le_of_ble_eq_true rfl)
  rw [lg_entry_eq]
  generalize (lg_sl ([.int a0]) ++ List.replicate (1 - (lg_sl ([.int a0])).length) Slot.unset).toArray = ls at hl ⊢
  have hl : lv_has ls 1 [(0, .int a0)] := hl
  refine lv_iload_n hx hb d_Search_isRight_0 rfl (lv_at hl 0 rfl) ?_
  refine lv_iconst (v := 1) hx hb d_Search_isRight_1 (by decide) ?_
  refine lv_icmp_eq (tgt := 10) hx hb d_Search_isRight_2 (by decide) (fun c2 => ?_) (fun c2 => ?_)
  · skip
    have c2 : k = 1 := (ti_eq g0 (ti_k (by decide))).mp c2
    refine lv_iconst (v := 1) hx hb d_Search_isRight_10 (by decide) ?_
    refine lv_goto (tgt := 15) hx hb d_Search_isRight_11 (by decide) ?_
    have hpost : isB 1 (k = 1 ∨ k = 2) := by
      exact Or.inl ⟨rfl, by omega⟩
    exact W.zret (v := 1) hx hb hr (by decide) (fun t ht hW => ⟨⟨1, (), rfl, hpost, trivial⟩, hS.F ht⟩) hS.2.2 d_Search_isRight_15
  · skip
    have c2 : ¬ (k = 1) := fun q => c2 ((ti_eq g0 (ti_k (by decide))).mpr q)
    refine lv_iload_n hx hb d_Search_isRight_5 rfl (lv_at hl 0 rfl) ?_
    refine lv_iconst (v := 2) hx hb d_Search_isRight_6 (by decide) ?_
    refine lv_icmp_ne (tgt := 14) hx hb d_Search_isRight_7 (by decide) (fun c7 => ?_) (fun c7 => ?_)
    · skip
      have c7 : ¬ (k = 2) := fun q => c7 ((ti_eq g0 (ti_k (by decide))).mpr q)
      refine lv_iconst (v := 0) hx hb d_Search_isRight_14 (by decide) ?_
      have hpost : isB 0 (k = 1 ∨ k = 2) := by
        exact Or.inr ⟨rfl, by omega⟩
      exact W.zret (v := 0) hx hb hr (by decide) (fun t ht hW => ⟨⟨0, (), rfl, hpost, trivial⟩, hS.F ht⟩) hS.2.2 d_Search_isRight_15
    · skip
      have c7 : k = 2 := (ti_eq g0 (ti_k (by decide))).mp c7
      refine lv_iconst (v := 1) hx hb d_Search_isRight_10 (by decide) ?_
      refine lv_goto (tgt := 15) hx hb d_Search_isRight_11 (by decide) ?_
      have hpost : isB 1 (k = 1 ∨ k = 2) := by
        exact Or.inl ⟨rfl, by omega⟩
      exact W.zret (v := 1) hx hb hr (by decide) (fun t ht hW => ⟨⟨1, (), rfl, hpost, trivial⟩, hS.F ht⟩) hS.2.2 d_Search_isRight_15

set_option maxHeartbeats 4000000 in
set_option maxRecDepth 100000 in
theorem c_isLow (l : Launch) (dC : Nat → ClassId) (dI : Nat → Nat → Nat) (a0 : Int32) (k : Int) (g0 : a0.toInt = k) : Met l y_Search_isLow (.code y_Search_isLow b_Search_isLow 1 (some .boolean) :: allw) ({ frames := 0, cells := 0, slots := 0, locals := 0 }) (va_Pc [.int a0] (ro_B (dC, dI) vwCl [] [])) (va_Qi (fun (r : Int32) (_ : Unit) => isB r (2 ≤ k)) (fun _ _ => True) (fun _ => False)) 0 0 (fun _ => False) := by
  refine Met.ofW (cc := b_Search_isLow) (maxL := 1) (ret := (some .boolean)) (by decide) rfl ?_
  intro p e s m args below meth c s₁ B hml hv
  obtain ⟨rfl, hP, hK⟩ := hv
  have hx := B.exec
  have hb := B.bytes
  have hr := B.returns
  have hts : ∀ w ∈ allw, w.before _ s = true := fun w h => atoms_spec (ws := .code y_Search_isLow b_Search_isLow 1 (some .boolean) :: allw) B.pre w (List.mem_cons_of_mem _ h)
  have hown : s.vm.findClass R_Search = some m.cls := findClass_of_methodNamed B.named
  have hlocks := B.notSynchronized
  have hS : va_S (fun _ => False) s.heap s.heap [] := va_S.rf
  have hP : va_P (dC, dI) vwCl [] s.heap := hP
  have hl := lv_entry ([.int a0]) (n := 1) (Nat.le_of_ble_eq_true rfl)
  rw [lg_entry_eq]
  generalize (lg_sl ([.int a0]) ++ List.replicate (1 - (lg_sl ([.int a0])).length) Slot.unset).toArray = ls at hl ⊢
  have hl : lv_has ls 1 [(0, .int a0)] := hl
  refine lv_iload_n hx hb d_Search_isLow_0 rfl (lv_at hl 0 rfl) ?_
  refine lv_iconst (v := 2) hx hb d_Search_isLow_1 (by decide) ?_
  refine lv_icmp_lt (tgt := 9) hx hb d_Search_isLow_2 (by decide) (fun c2 => ?_) (fun c2 => ?_)
  · skip
    have c2 : k < 2 := (ti_lt g0 (ti_k (by decide))).mp c2
    refine lv_iconst (v := 0) hx hb d_Search_isLow_9 (by decide) ?_
    have hpost : isB 0 (2 ≤ k) := by
      exact Or.inr ⟨rfl, by omega⟩
    exact W.zret (v := 0) hx hb hr (by decide) (fun t ht hW => ⟨⟨0, (), rfl, hpost, trivial⟩, hS.F ht⟩) hS.2.2 d_Search_isLow_10
  · skip
    have c2 : ¬ (k < 2) := fun q => c2 ((ti_lt g0 (ti_k (by decide))).mpr q)
    refine lv_iconst (v := 1) hx hb d_Search_isLow_5 (by decide) ?_
    refine lv_goto (tgt := 10) hx hb d_Search_isLow_6 (by decide) ?_
    have hpost : isB 1 (2 ≤ k) := by
      exact Or.inl ⟨rfl, by omega⟩
    exact W.zret (v := 1) hx hb hr (by decide) (fun t ht hW => ⟨⟨1, (), rfl, hpost, trivial⟩, hS.F ht⟩) hS.2.2 d_Search_isLow_10

set_option maxHeartbeats 4000000 in
set_option maxRecDepth 100000 in
theorem c_isSingle (l : Launch) (dC : Nat → ClassId) (dI : Nat → Nat → Nat) (hq hp hw hs hst hqf hkn : Nat) (kS : ClassId) (pw ph psr lim thd md sz0 tm tx ty sx sy stp : Int32) (fs : Nat → Int32) (Wd Ht M S TX TY SX SY : Int) (D : Int → Int → Bool) (hpw : pw.toInt = Wd) (hph : ph.toInt = Ht) (hmd : md.toInt = M) (hsz0 : sz0.toInt = S) (htx : tx.toInt = TX) (hty : ty.toInt = TY) (hsx : sx.toInt = SX) (hsy : sy.toInt = SY) (hB : sBnd Wd Ht M S TX TY SX SY) (hsum : ∀ x y, 0 ≤ x → x ≤ Wd → 0 ≤ y → y ≤ Ht → (fs (y * 513 + x).toNat).toInt = cI D 0 0 x y) : Met l y_Search_isSingle (.code y_Search_isSingle b_Search_isSingle 1 (some .boolean) :: allw) ({ frames := 0, cells := 0, slots := 0, locals := 0 }) (va_Pc [.ref hq] (ro_B (dC, dI) vwCl [(hq, .inr (3, [.ref hp, .ref hst, .int lim, .int thd, .int md, .int sz0, .int tm, .int tx, .int ty, .int sx, .int sy, .ref hqf, .ref hkn, .int stp])), (hp, .inr (0, [.int pw, .int ph, .ref hw, .ref hs, .int psr])), (hs, .inl (kS, 263169, .inl fs))] [(kS, .int)])) (va_Qi (fun (r : Int32) (_ : Unit) => isB r (SX = 0 ∧ SY = 0)) (fun _ _ => True) (fun _ => False)) 0 0 (fun _ => False) := by
  refine Met.ofW (cc := b_Search_isSingle) (maxL := 1) (ret := (some .boolean)) (by decide) rfl ?_
  intro p e s m args below meth c s₁ B hml hv
  obtain ⟨rfl, hP, hK⟩ := hv
  have hx := B.exec
  have hb := B.bytes
  have hr := B.returns
  have hts : ∀ w ∈ allw, w.before _ s = true := fun w h => atoms_spec (ws := .code y_Search_isSingle b_Search_isSingle 1 (some .boolean) :: allw) B.pre w (List.mem_cons_of_mem _ h)
  have hown : s.vm.findClass R_Search = some m.cls := findClass_of_methodNamed B.named
  have hlocks := B.notSynchronized
  have hS : va_S (fun _ => False) s.heap s.heap [] := va_S.rf
  have hP : va_P (dC, dI) vwCl [(hq, .inr (3, [.ref hp, .ref hst, .int lim, .int thd, .int md, .int sz0, .int tm, .int tx, .int ty, .int sx, .int sy, .ref hqf, .ref hkn, .int stp])), (hp, .inr (0, [.int pw, .int ph, .ref hw, .ref hs, .int psr])), (hs, .inl (kS, 263169, .inl fs))] s.heap := hP
  have hl := lv_entry ([.ref hq]) (n := 1) (Nat.le_of_ble_eq_true rfl)
  rw [lg_entry_eq]
  generalize (lg_sl ([.ref hq]) ++ List.replicate (1 - (lg_sl ([.ref hq])).length) Slot.unset).toArray = ls at hl ⊢
  have hl : lv_has ls 1 [(0, .ref hq)] := hl
  refine lv_aload_n hx hb d_Search_isSingle_0 rfl (lv_at hl 0 rfl) ?_
  refine va_get (D := (dC, dI)) (ci := 3) (v := .int sx) (C := R_Search) (T := T_Search) (N := 14) hx hb hts i_Search hown hK hP 0 rfl rfl 9 (by decide) (hts _ wd_90) (fun _ h9 => h9) rfl d_Search_isSingle_1 ?_
  refine lv_if_ne (tgt := 18) hx hb d_Search_isSingle_4 (by decide) (fun c4 => ?_) (fun c4 => ?_)
  · skip
    have c4 : ¬ (SX = 0) := fun q => c4 ((ti_eq hsx (ti_k (by decide))).mpr q)
    refine lv_iconst (v := 0) hx hb d_Search_isSingle_18 (by decide) ?_
    have hpost : isB 0 (SX = 0 ∧ SY = 0) := by
      exact Or.inr ⟨rfl, by omega⟩
    exact W.zret (v := 0) hx hb hr (by decide) (fun t ht hW => ⟨⟨0, (), rfl, hpost, trivial⟩, hS.F ht⟩) hS.2.2 d_Search_isSingle_19
  · skip
    have c4 : SX = 0 := (ti_eq hsx (ti_k (by decide))).mp c4
    refine lv_aload_n hx hb d_Search_isSingle_7 rfl (lv_at hl 0 rfl) ?_
    refine va_get (D := (dC, dI)) (ci := 3) (v := .int sy) (C := R_Search) (T := T_Search) (N := 14) hx hb hts i_Search hown hK hP 0 rfl rfl 10 (by decide) (hts _ wd_91) (fun _ h9 => h9) rfl d_Search_isSingle_8 ?_
    refine lv_if_ne (tgt := 18) hx hb d_Search_isSingle_11 (by decide) (fun c11 => ?_) (fun c11 => ?_)
    · skip
      have c11 : ¬ (SY = 0) := fun q => c11 ((ti_eq hsy (ti_k (by decide))).mpr q)
      refine lv_iconst (v := 0) hx hb d_Search_isSingle_18 (by decide) ?_
      have hpost : isB 0 (SX = 0 ∧ SY = 0) := by
        exact Or.inr ⟨rfl, by omega⟩
      exact W.zret (v := 0) hx hb hr (by decide) (fun t ht hW => ⟨⟨0, (), rfl, hpost, trivial⟩, hS.F ht⟩) hS.2.2 d_Search_isSingle_19
    · skip
      have c11 : SY = 0 := (ti_eq hsy (ti_k (by decide))).mp c11
      refine lv_iconst (v := 1) hx hb d_Search_isSingle_14 (by decide) ?_
      refine lv_goto (tgt := 19) hx hb d_Search_isSingle_15 (by decide) ?_
      have hpost : isB 1 (SX = 0 ∧ SY = 0) := by
        exact Or.inl ⟨rfl, by omega⟩
      exact W.zret (v := 1) hx hb hr (by decide) (fun t ht hW => ⟨⟨1, (), rfl, hpost, trivial⟩, hS.F ht⟩) hS.2.2 d_Search_isSingle_19

set_option maxHeartbeats 4000000 in
set_option maxRecDepth 100000 in
theorem c_mostDark (l : Launch) (dC : Nat → ClassId) (dI : Nat → Nat → Nat) (hq hp hw hs hst hqf hkn : Nat) (kS : ClassId) (pw ph psr lim thd md sz0 tm tx ty sx sy stp : Int32) (fs : Nat → Int32) (Wd Ht M S TX TY SX SY : Int) (D : Int → Int → Bool) (hpw : pw.toInt = Wd) (hph : ph.toInt = Ht) (hmd : md.toInt = M) (hsz0 : sz0.toInt = S) (htx : tx.toInt = TX) (hty : ty.toInt = TY) (hsx : sx.toInt = SX) (hsy : sy.toInt = SY) (hB : sBnd Wd Ht M S TX TY SX SY) (hsum : ∀ x y, 0 ≤ x → x ≤ Wd → 0 ≤ y → y ≤ Ht → (fs (y * 513 + x).toNat).toInt = cI D 0 0 x y) (a1 a2 a3 a4 : Int32) (x y w h : Int) (g1 : a1.toInt = x) (g2 : a2.toInt = y) (g3 : a3.toInt = w) (g4 : a4.toInt = h) (b1 : 0 ≤ x) (b2 : 0 ≤ y) (b3 : 1 ≤ w) (b4 : 1 ≤ h) (b5 : x + w + SX ≤ Wd) (b6 : y + h + SY ≤ Ht) : Met l y_Search_mostDark (.code y_Search_mostDark b_Search_mostDark 9 (some .int) :: allw) ({ frames := 1, cells := 0, slots := 0, locals := 26 }) (va_Pc [.ref hq, .int a1, .int a2, .int a3, .int a4] (ro_B (dC, dI) vwCl [(hq, .inr (3, [.ref hp, .ref hst, .int lim, .int thd, .int md, .int sz0, .int tm, .int tx, .int ty, .int sx, .int sy, .ref hqf, .ref hkn, .int stp])), (hp, .inr (0, [.int pw, .int ph, .ref hw, .ref hs, .int psr])), (hs, .inl (kS, 263169, .inl fs))] [(kS, .int)])) (va_Qi (fun (r : Int32) (_ : Unit) => isMost D SX SY x y w h r.toInt) (fun _ _ => True) (fun _ => False)) 0 0 (fun _ => False) := by
  refine Met.ofW (cc := b_Search_mostDark) (maxL := 9) (ret := (some .int)) (by decide) rfl ?_
  intro p e s m args below meth c s₁ B hml hv
  obtain ⟨rfl, hP, hK⟩ := hv
  have hx := B.exec
  have hb := B.bytes
  have hr := B.returns
  have hts : ∀ w ∈ allw, w.before _ s = true := fun w h => atoms_spec (ws := .code y_Search_mostDark b_Search_mostDark 9 (some .int) :: allw) B.pre w (List.mem_cons_of_mem _ h)
  have hown : s.vm.findClass R_Search = some m.cls := findClass_of_methodNamed B.named
  have hlocks := B.notSynchronized
  have hS : va_S (fun _ => False) s.heap s.heap [] := va_S.rf
  have hP : va_P (dC, dI) vwCl [(hq, .inr (3, [.ref hp, .ref hst, .int lim, .int thd, .int md, .int sz0, .int tm, .int tx, .int ty, .int sx, .int sy, .ref hqf, .ref hkn, .int stp])), (hp, .inr (0, [.int pw, .int ph, .ref hw, .ref hs, .int psr])), (hs, .inl (kS, 263169, .inl fs))] s.heap := hP
  have hl := lv_entry ([.ref hq, .int a1, .int a2, .int a3, .int a4]) (n := 9) (Nat.le_of_ble_eq_true rfl)
  rw [lg_entry_eq]
  generalize (lg_sl ([.ref hq, .int a1, .int a2, .int a3, .int a4]) ++ List.replicate (9 - (lg_sl ([.ref hq, .int a1, .int a2, .int a3, .int a4])).length) Slot.unset).toArray = ls at hl ⊢
  have hl : lv_has ls 9 [(0, .ref hq), (1, .int a1), (2, .int a2), (3, .int a3), (4, .int a4)] := hl
  obtain ⟨hW1, hW2, hH1, hH2, hM1, hM2, hS1, hS2, hX1, hX2, hY1, hY2, hx1, hx2, hy1, hy2⟩ := id hB
  have m1 := mul_b (a := w) (b := h) (n := 512) (by omega) (by omega) (by omega) (by omega)
  have m2 := Int.mul_nonneg (show 0 ≤ w by omega) (show 0 ≤ h by omega)
  have m3 := mul_b (a := w + SX) (b := h + SY) (n := 512) (by omega) (by omega) (by omega) (by omega)
  have n1 := cI_nn D x y (w + SX) (h + SY)
  have n2 := cI_le D x y (w := w + SX) (h := h + SY) (by omega) (by omega)
  refine lv_aload_n hx hb d_Search_mostDark_0 rfl (lv_at hl 0 rfl) ?_
  refine va_get (D := (dC, dI)) (ci := 3) (v := .ref hp) (C := R_Search) (T := T_Search) (N := 14) hx hb hts i_Search hown hK hP 0 rfl rfl 0 (by decide) (hts _ wd_79) (fun _ h9 => h9) rfl d_Search_mostDark_1 ?_
  refine lv_iload_n hx hb d_Search_mostDark_4 rfl (lv_at hl 1 rfl) ?_
  refine lv_iload_n hx hb d_Search_mostDark_5 rfl (lv_at hl 2 rfl) ?_
  refine lv_iload_n hx hb d_Search_mostDark_6 rfl (lv_at hl 3 rfl) ?_
  refine lv_aload_n hx hb d_Search_mostDark_7 rfl (lv_at hl 0 rfl) ?_
  refine va_get (D := (dC, dI)) (ci := 3) (v := .int sx) (C := R_Search) (T := T_Search) (N := 14) hx hb hts i_Search hown hK hP 0 rfl rfl 9 (by decide) (hts _ wd_90) (fun _ h9 => h9) rfl d_Search_mostDark_8 ?_
  refine lv_iadd hx hb d_Search_mostDark_11 ?_
  refine lv_topi (fun v11 e11 => ?_)
  have h11 : v11.toInt = w + SX := by rw [e11]; exact ti_add g3 hsx (by omega) (by omega)
  refine lv_iload hx hb d_Search_mostDark_12 (lv_at hl 4 rfl) ?_
  refine lv_aload_n hx hb d_Search_mostDark_14 rfl (lv_at hl 0 rfl) ?_
  refine va_get (D := (dC, dI)) (ci := 3) (v := .int sy) (C := R_Search) (T := T_Search) (N := 14) hx hb hts i_Search hown hK hP 0 rfl rfl 10 (by decide) (hts _ wd_91) (fun _ h9 => h9) rfl d_Search_mostDark_15 ?_
  refine lv_iadd hx hb d_Search_mostDark_18 ?_
  refine lv_topi (fun v18 e18 => ?_)
  have h18 : v18.toInt = h + SY := by rw [e18]; exact ti_add g4 hsy (by omega) (by omega)
  have hPc := hP.sub (ws' := [(hp, .inr (0, [.int pw, .int ph, .ref hw, .ref hs, .int psr])), (hs, .inl (kS, 263169, .inl fs))]) [1, 2] rfl
  have hKc := hK.sub (tys' := [(kS, .int)]) [0] rfl
  refine va_calli (va_runV (As := [.int a1, .int a2, .int v11, .int v18]) (rest := []) ⟨hx, hb, hml, hown, hts⟩ (c_countSummed l dC dI hp hw hs kS pw ph psr fs Wd Ht D hpw hph hW1 hW2 hH1 hH2 hsum a1 a2 v11 v18 x y (w + SX) (h + SY) g1 g2 h11 h18) (aw_V 4 hts wd_414 wd_415 wd_416 wd_3 wd_417 rfl rfl (by decide +kernel) ⟨Nat.le_of_ble_eq_true rfl, Nat.le_of_ble_eq_true rfl⟩) ⟨ro_blind, va_recv hKc hPc (ci := 0) (q0 := 0) rfl rfl, ro_pre hPc hKc⟩ rfl rfl hl.1 rfl (lv_room (Nat.le_of_ble_eq_true rfl)) d_Search_mostDark_19 ⟨Nat.le_of_ble_eq_true rfl, Nat.le_of_ble_eq_true rfl⟩) hS (fun q _ h => h.elim) (fun q h => h.elim) (fun v19 _ t H19 locs ht hvm h19 hB hz1 hk1 hS => ?_)
  have hP := ro_keep hP hk1
  clear hPc hKc ht hvm hB hz1 hk1
  have g19 : cS D Wd Ht x y (w + SX) (h + SY) = cI D x y (w + SX) (h + SY) := cS_in (by omega)
  rw [g19] at h19
  refine lv_istore (lv' := [(5, .int v19), (0, .ref hq), (1, .int a1), (2, .int a2), (3, .int a3), (4, .int a4)]) hx hb d_Search_mostDark_22 hl (by decide) rfl (fun ls hl => ?_)
  refine lv_aload_n hx hb d_Search_mostDark_24 rfl (lv_at hl 1 rfl) ?_
  have hPc := hP.sub (ws' := [(hq, .inr (3, [.ref hp, .ref hst, .int lim, .int thd, .int md, .int sz0, .int tm, .int tx, .int ty, .int sx, .int sy, .ref hqf, .ref hkn, .int stp])), (hp, .inr (0, [.int pw, .int ph, .ref hw, .ref hs, .int psr])), (hs, .inl (kS, 263169, .inl fs))]) [0, 1, 2] rfl
  have hKc := hK.sub (tys' := [(kS, .int)]) [0] rfl
  refine va_calli (va_runV (As := []) (rest := []) ⟨hx, hb, hml, hown, hts⟩ (c_isSingle l dC dI hq hp hw hs hst hqf hkn kS pw ph psr lim thd md sz0 tm tx ty sx sy stp fs Wd Ht M S TX TY SX SY D hpw hph hmd hsz0 htx hty hsx hsy hB hsum) (aw_V 0 hts wd_418 wd_420 ws_10 wd_2 wd_421 rfl rfl (by decide +kernel) ⟨Nat.le_of_ble_eq_true rfl, Nat.le_of_ble_eq_true rfl⟩) ⟨ro_blind, va_recv hKc hPc (ci := 3) (q0 := 0) rfl rfl, ro_pre hPc hKc⟩ rfl rfl hl.1 rfl (lv_room (Nat.le_of_ble_eq_true rfl)) d_Search_mostDark_25 ⟨Nat.le_of_ble_eq_true rfl, Nat.le_of_ble_eq_true rfl⟩) hS (fun q _ h => h.elim) (fun q h => h.elim) (fun v25 _ t H25 locs ht hvm h25 hB hz1 hk1 hS => ?_)
  have hP := ro_keep hP hk1
  clear hPc hKc ht hvm hB hz1 hk1
  refine lv_if_eq (tgt := 34) hx hb d_Search_mostDark_28 (by decide) (fun c28 => ?_) (fun c28 => ?_)
  · skip
    have c28 : ¬ (SX = 0 ∧ SY = 0) := bi_z h25 c28
    refine lv_iload_n hx hb d_Search_mostDark_34 rfl (lv_at hl 4 rfl) ?_
    refine lv_aload_n hx hb d_Search_mostDark_35 rfl (lv_at hl 1 rfl) ?_
    refine va_get (D := (dC, dI)) (ci := 3) (v := .int sx) (C := R_Search) (T := T_Search) (N := 14) hx hb hts i_Search hown hK hP 0 rfl rfl 9 (by decide) (hts _ wd_90) (fun _ h9 => h9) rfl d_Search_mostDark_36 ?_
    refine lv_isub hx hb d_Search_mostDark_39 ?_
    refine lv_topi (fun v39 e39 => ?_)
    have h39 : v39.toInt = w - SX := by rw [e39]; exact ti_sub g3 hsx (by omega) (by omega)
    refine lv_iconst (v := 0) hx hb d_Search_mostDark_40 (by decide) ?_
    refine va_mmax hx hb (by rw [hml]; exact hl.1.symm) hown (hts _ wd_422) (hts _ wd_148) (hts _ wd_11) (hts _ wd_149) (Nat.le_of_ble_eq_true rfl) (Nat.le_of_ble_eq_true rfl) (Nat.le_of_ble_eq_true rfl) (Nat.le_of_ble_eq_true rfl) d_Search_mostDark_41 ?_
    refine lv_topi (fun v41 e41 => ?_)
    have h41 : v41.toInt = max (w - SX) 0 := by rw [e41]; exact ti_max h39 (ti_k (by decide))
    obtain ⟨CW, kCW⟩ : ∃ c : Int, c = (max (w - SX) 0) := ⟨_, rfl⟩
    have h41 : v41.toInt = CW := by rw [h41, kCW]
    refine lv_istore (lv' := [(6, .int v41), (5, .int v19), (0, .ref hq), (1, .int a1), (2, .int a2), (3, .int a3), (4, .int a4)]) hx hb d_Search_mostDark_44 hl (by decide) rfl (fun ls hl => ?_)
    refine lv_iload hx hb d_Search_mostDark_46 (lv_at hl 6 rfl) ?_
    refine lv_aload_n hx hb d_Search_mostDark_48 rfl (lv_at hl 2 rfl) ?_
    refine va_get (D := (dC, dI)) (ci := 3) (v := .int sy) (C := R_Search) (T := T_Search) (N := 14) hx hb hts i_Search hown hK hP 0 rfl rfl 10 (by decide) (hts _ wd_91) (fun _ h9 => h9) rfl d_Search_mostDark_49 ?_
    refine lv_isub hx hb d_Search_mostDark_52 ?_
    refine lv_topi (fun v52 e52 => ?_)
    have h52 : v52.toInt = h - SY := by rw [e52]; exact ti_sub g4 hsy (by omega) (by omega)
    refine lv_iconst (v := 0) hx hb d_Search_mostDark_53 (by decide) ?_
    refine va_mmax hx hb (by rw [hml]; exact hl.1.symm) hown (hts _ wd_422) (hts _ wd_148) (hts _ wd_11) (hts _ wd_149) (Nat.le_of_ble_eq_true rfl) (Nat.le_of_ble_eq_true rfl) (Nat.le_of_ble_eq_true rfl) (Nat.le_of_ble_eq_true rfl) d_Search_mostDark_54 ?_
    refine lv_topi (fun v54 e54 => ?_)
    have h54 : v54.toInt = max (h - SY) 0 := by rw [e54]; exact ti_max h52 (ti_k (by decide))
    obtain ⟨CH, kCH⟩ : ∃ c : Int, c = (max (h - SY) 0) := ⟨_, rfl⟩
    have h54 : v54.toInt = CH := by rw [h54, kCH]
    refine lv_istore (lv' := [(7, .int v54), (6, .int v41), (5, .int v19), (0, .ref hq), (1, .int a1), (2, .int a2), (3, .int a3), (4, .int a4)]) hx hb d_Search_mostDark_57 hl (by decide) rfl (fun ls hl => ?_)
    refine lv_aload_n hx hb d_Search_mostDark_59 rfl (lv_at hl 3 rfl) ?_
    refine va_get (D := (dC, dI)) (ci := 3) (v := .ref hp) (C := R_Search) (T := T_Search) (N := 14) hx hb hts i_Search hown hK hP 0 rfl rfl 0 (by decide) (hts _ wd_79) (fun _ h9 => h9) rfl d_Search_mostDark_60 ?_
    refine lv_iload_n hx hb d_Search_mostDark_63 rfl (lv_at hl 4 rfl) ?_
    refine lv_aload_n hx hb d_Search_mostDark_64 rfl (lv_at hl 3 rfl) ?_
    refine va_get (D := (dC, dI)) (ci := 3) (v := .int sx) (C := R_Search) (T := T_Search) (N := 14) hx hb hts i_Search hown hK hP 0 rfl rfl 9 (by decide) (hts _ wd_90) (fun _ h9 => h9) rfl d_Search_mostDark_65 ?_
    refine lv_iadd hx hb d_Search_mostDark_68 ?_
    refine lv_topi (fun v68 e68 => ?_)
    have h68 : v68.toInt = x + SX := by rw [e68]; exact ti_add g1 hsx (by omega) (by omega)
    refine lv_iload_n hx hb d_Search_mostDark_69 rfl (lv_at hl 5 rfl) ?_
    refine lv_aload_n hx hb d_Search_mostDark_70 rfl (lv_at hl 3 rfl) ?_
    refine va_get (D := (dC, dI)) (ci := 3) (v := .int sy) (C := R_Search) (T := T_Search) (N := 14) hx hb hts i_Search hown hK hP 0 rfl rfl 10 (by decide) (hts _ wd_91) (fun _ h9 => h9) rfl d_Search_mostDark_71 ?_
    refine lv_iadd hx hb d_Search_mostDark_74 ?_
    refine lv_topi (fun v74 e74 => ?_)
    have h74 : v74.toInt = y + SY := by rw [e74]; exact ti_add g2 hsy (by omega) (by omega)
    refine lv_iload hx hb d_Search_mostDark_75 (lv_at hl 1 rfl) ?_
    refine lv_iload hx hb d_Search_mostDark_77 (lv_at hl 0 rfl) ?_
    have hPc := hP.sub (ws' := [(hp, .inr (0, [.int pw, .int ph, .ref hw, .ref hs, .int psr])), (hs, .inl (kS, 263169, .inl fs))]) [1, 2] rfl
    have hKc := hK.sub (tys' := [(kS, .int)]) [0] rfl
    refine va_calli (va_runV (As := [.int v68, .int v74, .int v41, .int v54]) (rest := []) ⟨hx, hb, hml, hown, hts⟩ (c_countSummed l dC dI hp hw hs kS pw ph psr fs Wd Ht D hpw hph hW1 hW2 hH1 hH2 hsum v68 v74 v41 v54 (x + SX) (y + SY) CW CH h68 h74 h41 h54) (aw_V 4 hts wd_414 wd_415 wd_416 wd_3 wd_417 rfl rfl (by decide +kernel) ⟨Nat.le_of_ble_eq_true rfl, Nat.le_of_ble_eq_true rfl⟩) ⟨ro_blind, va_recv hKc hPc (ci := 0) (q0 := 0) rfl rfl, ro_pre hPc hKc⟩ rfl rfl hl.1 rfl (lv_room (Nat.le_of_ble_eq_true rfl)) d_Search_mostDark_79 ⟨Nat.le_of_ble_eq_true rfl, Nat.le_of_ble_eq_true rfl⟩) hS (fun q _ h => h.elim) (fun q h => h.elim) (fun v79 _ t H79 locs ht hvm h79 hB hz1 hk1 hS => ?_)
    have hP := ro_keep hP hk1
    clear hPc hKc ht hvm hB hz1 hk1
    have g79 : cS D Wd Ht (x + SX) (y + SY) CW CH = cI D (x + SX) (y + SY) CW CH := cS_max (by omega) (by omega) (by omega) (by omega) (by omega) (by omega)
    rw [g79] at h79
    have m4 := mul_b (a := CW) (b := CH) (n := 512) (by omega) (by omega) (by omega) (by omega)
    have m5 := Int.mul_nonneg (show 0 ≤ CW by omega) (show 0 ≤ CH by omega)
    have n3 := cI_nn D (x + SX) (y + SY) CW CH
    have n4 := cI_le D (x + SX) (y + SY) (w := CW) (h := CH) (by omega) (by omega)
    refine lv_istore (lv' := [(8, .int v79), (7, .int v54), (6, .int v41), (5, .int v19), (0, .ref hq), (1, .int a1), (2, .int a2), (3, .int a3), (4, .int a4)]) hx hb d_Search_mostDark_82 hl (by decide) rfl (fun ls hl => ?_)
    refine lv_iload hx hb d_Search_mostDark_84 (lv_at hl 3 rfl) ?_
    refine lv_iload hx hb d_Search_mostDark_86 (lv_at hl 0 rfl) ?_
    refine lv_iload_n hx hb d_Search_mostDark_88 rfl (lv_at hl 7 rfl) ?_
    refine lv_iload hx hb d_Search_mostDark_89 (lv_at hl 8 rfl) ?_
    refine lv_imul hx hb d_Search_mostDark_91 ?_
    refine lv_topi (fun v91 e91 => ?_)
    have h91 : v91.toInt = w * h := by rw [e91]; exact ti_mul g3 g4 (by omega) (by omega)
    refine lv_iadd hx hb d_Search_mostDark_92 ?_
    refine lv_topi (fun v92 e92 => ?_)
    have h92 : v92.toInt = (cI D (x + SX) (y + SY) CW CH) + (w * h) := by rw [e92]; exact ti_add h79 h91 (by omega) (by omega)
    refine lv_iload hx hb d_Search_mostDark_93 (lv_at hl 2 rfl) ?_
    refine lv_iload hx hb d_Search_mostDark_95 (lv_at hl 1 rfl) ?_
    refine lv_imul hx hb d_Search_mostDark_97 ?_
    refine lv_topi (fun v97 e97 => ?_)
    have h97 : v97.toInt = CW * CH := by rw [e97]; exact ti_mul h41 h54 (by omega) (by omega)
    refine lv_isub hx hb d_Search_mostDark_98 ?_
    refine lv_topi (fun v98 e98 => ?_)
    have h98 : v98.toInt = ((cI D (x + SX) (y + SY) CW CH) + (w * h)) - (CW * CH) := by rw [e98]; exact ti_sub h92 h97 (by omega) (by omega)
    refine va_mmin hx hb (by rw [hml]; exact hl.1.symm) hown (hts _ wd_396) (hts _ wd_151) (hts _ wd_11) (hts _ wd_152) (Nat.le_of_ble_eq_true rfl) (Nat.le_of_ble_eq_true rfl) (Nat.le_of_ble_eq_true rfl) (Nat.le_of_ble_eq_true rfl) d_Search_mostDark_99 ?_
    refine lv_topi (fun v99 e99 => ?_)
    have h99 : v99.toInt = min (cI D x y (w + SX) (h + SY)) (((cI D (x + SX) (y + SY) CW CH) + (w * h)) - (CW * CH)) := by rw [e99]; exact ti_min h19 h98
    have hpost : isMost D SX SY x y w h (v99 : Int32).toInt := by
      rw [h99]
      exact isMost_2 (by omega) (by omega) (by omega) (by omega) kCW kCH (by omega)
    exact W.iret (v := v99) hx hb hr (fun t ht hW => ⟨⟨v99, (), rfl, hpost, trivial⟩, hS.F ht⟩) hS.2.2 d_Search_mostDark_102
  · skip
    have c28 : SX = 0 ∧ SY = 0 := bi_nz h25 c28
    refine lv_iload hx hb d_Search_mostDark_31 (lv_at hl 0 rfl) ?_
    have hpost : isMost D SX SY x y w h (v19 : Int32).toInt := by
      rw [h19]
      exact isMost_1 (by omega) (by omega)
    exact W.iret (v := v19) hx hb hr (fun t ht hW => ⟨⟨v19, (), rfl, hpost, trivial⟩, hS.F ht⟩) hS.2.2 d_Search_mostDark_33

set_option maxHeartbeats 4000000 in
set_option maxRecDepth 100000 in
theorem c_leastDark (l : Launch) (dC : Nat → ClassId) (dI : Nat → Nat → Nat) (hq hp hw hs hst hqf hkn : Nat) (kS : ClassId) (pw ph psr lim thd md sz0 tm tx ty sx sy stp : Int32) (fs : Nat → Int32) (Wd Ht M S TX TY SX SY : Int) (D : Int → Int → Bool) (hpw : pw.toInt = Wd) (hph : ph.toInt = Ht) (hmd : md.toInt = M) (hsz0 : sz0.toInt = S) (htx : tx.toInt = TX) (hty : ty.toInt = TY) (hsx : sx.toInt = SX) (hsy : sy.toInt = SY) (hB : sBnd Wd Ht M S TX TY SX SY) (hsum : ∀ x y, 0 ≤ x → x ≤ Wd → 0 ≤ y → y ≤ Ht → (fs (y * 513 + x).toNat).toInt = cI D 0 0 x y) (a1 a2 a3 a4 : Int32) (x y w h : Int) (g1 : a1.toInt = x) (g2 : a2.toInt = y) (g3 : a3.toInt = w) (g4 : a4.toInt = h) (b1 : 0 ≤ x) (b2 : 0 ≤ y) (b3 : 1 ≤ w) (b4 : 1 ≤ h) (b5 : x + w + SX ≤ Wd) (b6 : y + h + SY ≤ Ht) : Met l y_Search_leastDark (.code y_Search_leastDark b_Search_leastDark 8 (some .int) :: allw) ({ frames := 1, cells := 0, slots := 0, locals := 26 }) (va_Pc [.ref hq, .int a1, .int a2, .int a3, .int a4] (ro_B (dC, dI) vwCl [(hq, .inr (3, [.ref hp, .ref hst, .int lim, .int thd, .int md, .int sz0, .int tm, .int tx, .int ty, .int sx, .int sy, .ref hqf, .ref hkn, .int stp])), (hp, .inr (0, [.int pw, .int ph, .ref hw, .ref hs, .int psr])), (hs, .inl (kS, 263169, .inl fs))] [(kS, .int)])) (va_Qi (fun (r : Int32) (_ : Unit) => isLeast D SX SY x y w h r.toInt) (fun _ _ => True) (fun _ => False)) 0 0 (fun _ => False) := by
  refine Met.ofW (cc := b_Search_leastDark) (maxL := 8) (ret := (some .int)) (by decide) rfl ?_
  intro p e s m args below meth c s₁ B hml hv
  obtain ⟨rfl, hP, hK⟩ := hv
  have hx := B.exec
  have hb := B.bytes
  have hr := B.returns
  have hts : ∀ w ∈ allw, w.before _ s = true := fun w h => atoms_spec (ws := .code y_Search_leastDark b_Search_leastDark 8 (some .int) :: allw) B.pre w (List.mem_cons_of_mem _ h)
  have hown : s.vm.findClass R_Search = some m.cls := findClass_of_methodNamed B.named
  have hlocks := B.notSynchronized
  have hS : va_S (fun _ => False) s.heap s.heap [] := va_S.rf
  have hP : va_P (dC, dI) vwCl [(hq, .inr (3, [.ref hp, .ref hst, .int lim, .int thd, .int md, .int sz0, .int tm, .int tx, .int ty, .int sx, .int sy, .ref hqf, .ref hkn, .int stp])), (hp, .inr (0, [.int pw, .int ph, .ref hw, .ref hs, .int psr])), (hs, .inl (kS, 263169, .inl fs))] s.heap := hP
  have hl := lv_entry ([.ref hq, .int a1, .int a2, .int a3, .int a4]) (n := 8) (Nat.le_of_ble_eq_true rfl)
  rw [lg_entry_eq]
  generalize (lg_sl ([.ref hq, .int a1, .int a2, .int a3, .int a4]) ++ List.replicate (8 - (lg_sl ([.ref hq, .int a1, .int a2, .int a3, .int a4])).length) Slot.unset).toArray = ls at hl ⊢
  have hl : lv_has ls 8 [(0, .ref hq), (1, .int a1), (2, .int a2), (3, .int a3), (4, .int a4)] := hl
  obtain ⟨hW1, hW2, hH1, hH2, hM1, hM2, hS1, hS2, hX1, hX2, hY1, hY2, hx1, hx2, hy1, hy2⟩ := id hB
  have m1 := mul_b (a := w) (b := h) (n := 512) (by omega) (by omega) (by omega) (by omega)
  have m2 := Int.mul_nonneg (show 0 ≤ w by omega) (show 0 ≤ h by omega)
  have m3 := mul_b (a := w + SX) (b := h + SY) (n := 512) (by omega) (by omega) (by omega) (by omega)
  have n1 := cI_nn D x y (w + SX) (h + SY)
  have n2 := cI_le D x y (w := w + SX) (h := h + SY) (by omega) (by omega)
  have m6 := Int.mul_nonneg (show 0 ≤ w + SX by omega) (show 0 ≤ h + SY by omega)
  refine lv_aload_n hx hb d_Search_leastDark_0 rfl (lv_at hl 0 rfl) ?_
  refine va_get (D := (dC, dI)) (ci := 3) (v := .ref hp) (C := R_Search) (T := T_Search) (N := 14) hx hb hts i_Search hown hK hP 0 rfl rfl 0 (by decide) (hts _ wd_79) (fun _ h9 => h9) rfl d_Search_leastDark_1 ?_
  refine lv_iload_n hx hb d_Search_leastDark_4 rfl (lv_at hl 1 rfl) ?_
  refine lv_iload_n hx hb d_Search_leastDark_5 rfl (lv_at hl 2 rfl) ?_
  refine lv_iload_n hx hb d_Search_leastDark_6 rfl (lv_at hl 3 rfl) ?_
  refine lv_aload_n hx hb d_Search_leastDark_7 rfl (lv_at hl 0 rfl) ?_
  refine va_get (D := (dC, dI)) (ci := 3) (v := .int sx) (C := R_Search) (T := T_Search) (N := 14) hx hb hts i_Search hown hK hP 0 rfl rfl 9 (by decide) (hts _ wd_90) (fun _ h9 => h9) rfl d_Search_leastDark_8 ?_
  refine lv_iadd hx hb d_Search_leastDark_11 ?_
  refine lv_topi (fun v11 e11 => ?_)
  have h11 : v11.toInt = w + SX := by rw [e11]; exact ti_add g3 hsx (by omega) (by omega)
  refine lv_iload hx hb d_Search_leastDark_12 (lv_at hl 4 rfl) ?_
  refine lv_aload_n hx hb d_Search_leastDark_14 rfl (lv_at hl 0 rfl) ?_
  refine va_get (D := (dC, dI)) (ci := 3) (v := .int sy) (C := R_Search) (T := T_Search) (N := 14) hx hb hts i_Search hown hK hP 0 rfl rfl 10 (by decide) (hts _ wd_91) (fun _ h9 => h9) rfl d_Search_leastDark_15 ?_
  refine lv_iadd hx hb d_Search_leastDark_18 ?_
  refine lv_topi (fun v18 e18 => ?_)
  have h18 : v18.toInt = h + SY := by rw [e18]; exact ti_add g4 hsy (by omega) (by omega)
  have hPc := hP.sub (ws' := [(hp, .inr (0, [.int pw, .int ph, .ref hw, .ref hs, .int psr])), (hs, .inl (kS, 263169, .inl fs))]) [1, 2] rfl
  have hKc := hK.sub (tys' := [(kS, .int)]) [0] rfl
  refine va_calli (va_runV (As := [.int a1, .int a2, .int v11, .int v18]) (rest := []) ⟨hx, hb, hml, hown, hts⟩ (c_countSummed l dC dI hp hw hs kS pw ph psr fs Wd Ht D hpw hph hW1 hW2 hH1 hH2 hsum a1 a2 v11 v18 x y (w + SX) (h + SY) g1 g2 h11 h18) (aw_V 4 hts wd_414 wd_415 wd_416 wd_3 wd_417 rfl rfl (by decide +kernel) ⟨Nat.le_of_ble_eq_true rfl, Nat.le_of_ble_eq_true rfl⟩) ⟨ro_blind, va_recv hKc hPc (ci := 0) (q0 := 0) rfl rfl, ro_pre hPc hKc⟩ rfl rfl hl.1 rfl (lv_room (Nat.le_of_ble_eq_true rfl)) d_Search_leastDark_19 ⟨Nat.le_of_ble_eq_true rfl, Nat.le_of_ble_eq_true rfl⟩) hS (fun q _ h => h.elim) (fun q h => h.elim) (fun v19 _ t H19 locs ht hvm h19 hB hz1 hk1 hS => ?_)
  have hP := ro_keep hP hk1
  clear hPc hKc ht hvm hB hz1 hk1
  have g19 : cS D Wd Ht x y (w + SX) (h + SY) = cI D x y (w + SX) (h + SY) := cS_in (by omega)
  rw [g19] at h19
  refine lv_istore (lv' := [(5, .int v19), (0, .ref hq), (1, .int a1), (2, .int a2), (3, .int a3), (4, .int a4)]) hx hb d_Search_leastDark_22 hl (by decide) rfl (fun ls hl => ?_)
  refine lv_aload_n hx hb d_Search_leastDark_24 rfl (lv_at hl 1 rfl) ?_
  have hPc := hP.sub (ws' := [(hq, .inr (3, [.ref hp, .ref hst, .int lim, .int thd, .int md, .int sz0, .int tm, .int tx, .int ty, .int sx, .int sy, .ref hqf, .ref hkn, .int stp])), (hp, .inr (0, [.int pw, .int ph, .ref hw, .ref hs, .int psr])), (hs, .inl (kS, 263169, .inl fs))]) [0, 1, 2] rfl
  have hKc := hK.sub (tys' := [(kS, .int)]) [0] rfl
  refine va_calli (va_runV (As := []) (rest := []) ⟨hx, hb, hml, hown, hts⟩ (c_isSingle l dC dI hq hp hw hs hst hqf hkn kS pw ph psr lim thd md sz0 tm tx ty sx sy stp fs Wd Ht M S TX TY SX SY D hpw hph hmd hsz0 htx hty hsx hsy hB hsum) (aw_V 0 hts wd_418 wd_420 ws_10 wd_2 wd_421 rfl rfl (by decide +kernel) ⟨Nat.le_of_ble_eq_true rfl, Nat.le_of_ble_eq_true rfl⟩) ⟨ro_blind, va_recv hKc hPc (ci := 3) (q0 := 0) rfl rfl, ro_pre hPc hKc⟩ rfl rfl hl.1 rfl (lv_room (Nat.le_of_ble_eq_true rfl)) d_Search_leastDark_25 ⟨Nat.le_of_ble_eq_true rfl, Nat.le_of_ble_eq_true rfl⟩) hS (fun q _ h => h.elim) (fun q h => h.elim) (fun v25 _ t H25 locs ht hvm h25 hB hz1 hk1 hS => ?_)
  have hP := ro_keep hP hk1
  clear hPc hKc ht hvm hB hz1 hk1
  refine lv_if_eq (tgt := 34) hx hb d_Search_leastDark_28 (by decide) (fun c28 => ?_) (fun c28 => ?_)
  · skip
    have c28 : ¬ (SX = 0 ∧ SY = 0) := bi_z h25 c28
    refine lv_iload_n hx hb d_Search_leastDark_34 rfl (lv_at hl 4 rfl) ?_
    refine lv_aload_n hx hb d_Search_leastDark_35 rfl (lv_at hl 1 rfl) ?_
    refine va_get (D := (dC, dI)) (ci := 3) (v := .int sx) (C := R_Search) (T := T_Search) (N := 14) hx hb hts i_Search hown hK hP 0 rfl rfl 9 (by decide) (hts _ wd_90) (fun _ h9 => h9) rfl d_Search_leastDark_36 ?_
    refine lv_iadd hx hb d_Search_leastDark_39 ?_
    refine lv_topi (fun v39 e39 => ?_)
    have h39 : v39.toInt = w + SX := by rw [e39]; exact ti_add g3 hsx (by omega) (by omega)
    refine lv_iload hx hb d_Search_leastDark_40 (lv_at hl 5 rfl) ?_
    refine lv_aload_n hx hb d_Search_leastDark_42 rfl (lv_at hl 1 rfl) ?_
    refine va_get (D := (dC, dI)) (ci := 3) (v := .int sy) (C := R_Search) (T := T_Search) (N := 14) hx hb hts i_Search hown hK hP 0 rfl rfl 10 (by decide) (hts _ wd_91) (fun _ h9 => h9) rfl d_Search_leastDark_43 ?_
    refine lv_iadd hx hb d_Search_leastDark_46 ?_
    refine lv_topi (fun v46 e46 => ?_)
    have h46 : v46.toInt = h + SY := by rw [e46]; exact ti_add g4 hsy (by omega) (by omega)
    refine lv_imul hx hb d_Search_leastDark_47 ?_
    refine lv_topi (fun v47 e47 => ?_)
    have h47 : v47.toInt = (w + SX) * (h + SY) := by rw [e47]; exact ti_mul h39 h46 (by omega) (by omega)
    refine lv_iload_n hx hb d_Search_leastDark_48 rfl (lv_at hl 4 rfl) ?_
    refine lv_iload hx hb d_Search_leastDark_49 (lv_at hl 5 rfl) ?_
    refine lv_imul hx hb d_Search_leastDark_51 ?_
    refine lv_topi (fun v51 e51 => ?_)
    have h51 : v51.toInt = w * h := by rw [e51]; exact ti_mul g3 g4 (by omega) (by omega)
    refine lv_isub hx hb d_Search_leastDark_52 ?_
    refine lv_topi (fun v52 e52 => ?_)
    have h52 : v52.toInt = ((w + SX) * (h + SY)) - (w * h) := by rw [e52]; exact ti_sub h47 h51 (by omega) (by omega)
    refine lv_istore (lv' := [(6, .int v52), (5, .int v19), (0, .ref hq), (1, .int a1), (2, .int a2), (3, .int a3), (4, .int a4)]) hx hb d_Search_leastDark_53 hl (by decide) rfl (fun ls hl => ?_)
    refine lv_aload_n hx hb d_Search_leastDark_55 rfl (lv_at hl 2 rfl) ?_
    refine va_get (D := (dC, dI)) (ci := 3) (v := .ref hp) (C := R_Search) (T := T_Search) (N := 14) hx hb hts i_Search hown hK hP 0 rfl rfl 0 (by decide) (hts _ wd_79) (fun _ h9 => h9) rfl d_Search_leastDark_56 ?_
    refine lv_iload_n hx hb d_Search_leastDark_59 rfl (lv_at hl 3 rfl) ?_
    refine lv_aload_n hx hb d_Search_leastDark_60 rfl (lv_at hl 2 rfl) ?_
    refine va_get (D := (dC, dI)) (ci := 3) (v := .int sx) (C := R_Search) (T := T_Search) (N := 14) hx hb hts i_Search hown hK hP 0 rfl rfl 9 (by decide) (hts _ wd_90) (fun _ h9 => h9) rfl d_Search_leastDark_61 ?_
    refine lv_iadd hx hb d_Search_leastDark_64 ?_
    refine lv_topi (fun v64 e64 => ?_)
    have h64 : v64.toInt = x + SX := by rw [e64]; exact ti_add g1 hsx (by omega) (by omega)
    refine lv_iload_n hx hb d_Search_leastDark_65 rfl (lv_at hl 4 rfl) ?_
    refine lv_aload_n hx hb d_Search_leastDark_66 rfl (lv_at hl 2 rfl) ?_
    refine va_get (D := (dC, dI)) (ci := 3) (v := .int sy) (C := R_Search) (T := T_Search) (N := 14) hx hb hts i_Search hown hK hP 0 rfl rfl 10 (by decide) (hts _ wd_91) (fun _ h9 => h9) rfl d_Search_leastDark_67 ?_
    refine lv_iadd hx hb d_Search_leastDark_70 ?_
    refine lv_topi (fun v70 e70 => ?_)
    have h70 : v70.toInt = y + SY := by rw [e70]; exact ti_add g2 hsy (by omega) (by omega)
    refine lv_iload_n hx hb d_Search_leastDark_71 rfl (lv_at hl 5 rfl) ?_
    refine lv_aload_n hx hb d_Search_leastDark_72 rfl (lv_at hl 2 rfl) ?_
    refine va_get (D := (dC, dI)) (ci := 3) (v := .int sx) (C := R_Search) (T := T_Search) (N := 14) hx hb hts i_Search hown hK hP 0 rfl rfl 9 (by decide) (hts _ wd_90) (fun _ h9 => h9) rfl d_Search_leastDark_73 ?_
    refine lv_isub hx hb d_Search_leastDark_76 ?_
    refine lv_topi (fun v76 e76 => ?_)
    have h76 : v76.toInt = w - SX := by rw [e76]; exact ti_sub g3 hsx (by omega) (by omega)
    refine lv_iload hx hb d_Search_leastDark_77 (lv_at hl 6 rfl) ?_
    refine lv_aload_n hx hb d_Search_leastDark_79 rfl (lv_at hl 2 rfl) ?_
    refine va_get (D := (dC, dI)) (ci := 3) (v := .int sy) (C := R_Search) (T := T_Search) (N := 14) hx hb hts i_Search hown hK hP 0 rfl rfl 10 (by decide) (hts _ wd_91) (fun _ h9 => h9) rfl d_Search_leastDark_80 ?_
    refine lv_isub hx hb d_Search_leastDark_83 ?_
    refine lv_topi (fun v83 e83 => ?_)
    have h83 : v83.toInt = h - SY := by rw [e83]; exact ti_sub g4 hsy (by omega) (by omega)
    have hPc := hP.sub (ws' := [(hp, .inr (0, [.int pw, .int ph, .ref hw, .ref hs, .int psr])), (hs, .inl (kS, 263169, .inl fs))]) [1, 2] rfl
    have hKc := hK.sub (tys' := [(kS, .int)]) [0] rfl
    refine va_calli (va_runV (As := [.int v64, .int v70, .int v76, .int v83]) (rest := []) ⟨hx, hb, hml, hown, hts⟩ (c_countSummed l dC dI hp hw hs kS pw ph psr fs Wd Ht D hpw hph hW1 hW2 hH1 hH2 hsum v64 v70 v76 v83 (x + SX) (y + SY) (w - SX) (h - SY) h64 h70 h76 h83) (aw_V 4 hts wd_414 wd_415 wd_416 wd_3 wd_417 rfl rfl (by decide +kernel) ⟨Nat.le_of_ble_eq_true rfl, Nat.le_of_ble_eq_true rfl⟩) ⟨ro_blind, va_recv hKc hPc (ci := 0) (q0 := 0) rfl rfl, ro_pre hPc hKc⟩ rfl rfl hl.1 rfl (lv_room (Nat.le_of_ble_eq_true rfl)) d_Search_leastDark_84 ⟨Nat.le_of_ble_eq_true rfl, Nat.le_of_ble_eq_true rfl⟩) hS (fun q _ h => h.elim) (fun q h => h.elim) (fun v84 _ t H84 locs ht hvm h84 hB hz1 hk1 hS => ?_)
    have hP := ro_keep hP hk1
    clear hPc hKc ht hvm hB hz1 hk1
    refine lv_istore (lv' := [(7, .int v84), (6, .int v52), (5, .int v19), (0, .ref hq), (1, .int a1), (2, .int a2), (3, .int a3), (4, .int a4)]) hx hb d_Search_leastDark_87 hl (by decide) rfl (fun ls hl => ?_)
    refine lv_iload hx hb d_Search_leastDark_89 (lv_at hl 2 rfl) ?_
    refine lv_iload hx hb d_Search_leastDark_91 (lv_at hl 1 rfl) ?_
    refine lv_isub hx hb d_Search_leastDark_93 ?_
    refine lv_topi (fun v93 e93 => ?_)
    have h93 : v93.toInt = (cI D x y (w + SX) (h + SY)) - (((w + SX) * (h + SY)) - (w * h)) := by rw [e93]; exact ti_sub h19 h52 (by omega) (by omega)
    refine lv_iload hx hb d_Search_leastDark_94 (lv_at hl 0 rfl) ?_
    refine va_mmax hx hb (by rw [hml]; exact hl.1.symm) hown (hts _ wd_422) (hts _ wd_148) (hts _ wd_11) (hts _ wd_149) (Nat.le_of_ble_eq_true rfl) (Nat.le_of_ble_eq_true rfl) (Nat.le_of_ble_eq_true rfl) (Nat.le_of_ble_eq_true rfl) d_Search_leastDark_96 ?_
    refine lv_topi (fun v96 e96 => ?_)
    have h96 : v96.toInt = max ((cI D x y (w + SX) (h + SY)) - (((w + SX) * (h + SY)) - (w * h))) (cS D Wd Ht (x + SX) (y + SY) (w - SX) (h - SY)) := by rw [e96]; exact ti_max h93 h84
    have hpost : isLeast D SX SY x y w h (v96 : Int32).toInt := by
      rw [h96]
      refine isLeast_2 (by omega) (by omega) (by omega) (by omega) (by omega) (by omega) ?_ (by omega)
      by_cases q : w - SX ≤ 0 ∨ h - SY ≤ 0
      · exact Or.inl ⟨q, cS_out (by omega)⟩
      · exact Or.inr ⟨q, cS_in (by omega)⟩
    exact W.iret (v := v96) hx hb hr (fun t ht hW => ⟨⟨v96, (), rfl, hpost, trivial⟩, hS.F ht⟩) hS.2.2 d_Search_leastDark_99
  · skip
    have c28 : SX = 0 ∧ SY = 0 := bi_nz h25 c28
    refine lv_iload hx hb d_Search_leastDark_31 (lv_at hl 0 rfl) ?_
    have hpost : isLeast D SX SY x y w h (v19 : Int32).toInt := by
      rw [h19]
      exact isLeast_1 (by omega) (by omega)
    exact W.iret (v := v19) hx hb hr (fun t ht hW => ⟨⟨v19, (), rfl, hpost, trivial⟩, hS.F ht⟩) hS.2.2 d_Search_leastDark_33
end
section
set_option maxHeartbeats 4000000 in
set_option maxRecDepth 100000 in
theorem c_finderX (l : Launch) (dC : Nat → ClassId) (dI : Nat → Nat → Nat) (hq hp hw hs hst hqf hkn : Nat) (kS : ClassId) (pw ph psr lim thd md sz0 tm tx ty sx sy stp : Int32) (fs : Nat → Int32) (Wd Ht M S TX TY SX SY : Int) (D : Int → Int → Bool) (hpw : pw.toInt = Wd) (hph : ph.toInt = Ht) (hmd : md.toInt = M) (hsz0 : sz0.toInt = S) (htx : tx.toInt = TX) (hty : ty.toInt = TY) (hsx : sx.toInt = SX) (hsy : sy.toInt = SY) (hB : sBnd Wd Ht M S TX TY SX SY) (hsum : ∀ x y, 0 ≤ x → x ≤ Wd → 0 ≤ y → y ≤ Ht → (fs (y * 513 + x).toNat).toInt = cI D 0 0 x y) (a1 : Int32) (k : Int) (g1 : a1.toInt = k) (hk0 : 0 ≤ k) (hk3 : k ≤ 3) : Met l y_Search_finderX (.code y_Search_finderX b_Search_finderX 2 (some .int) :: allw) ({ frames := 1, cells := 0, slots := 0, locals := 20 }) (va_Pc [.ref hq, .int a1] (ro_B (dC, dI) vwCl [(hq, .inr (3, [.ref hp, .ref hst, .int lim, .int thd, .int md, .int sz0, .int tm, .int tx, .int ty, .int sx, .int sy, .ref hqf, .ref hkn, .int stp])), (hp, .inr (0, [.int pw, .int ph, .ref hw, .ref hs, .int psr])), (hs, .inl (kS, 263169, .inl fs))] [(kS, .int)])) (va_Qi (fun (r : Int32) (_ : Unit) => r.toInt = TX + if k = 1 ∨ k = 2 then (S - 7) * M else 0) (fun _ _ => True) (fun _ => False)) 0 0 (fun _ => False) := by
  refine Met.ofW (cc := b_Search_finderX) (maxL := 2) (ret := (some .int)) (by decide) rfl ?_
  intro p e s m args below meth c s₁ B hml hv
  obtain ⟨rfl, hP, hK⟩ := hv
  have hx := B.exec
  have hb := B.bytes
  have hr := B.returns
  have hts : ∀ w ∈ allw, w.before _ s = true := fun w h => atoms_spec (ws := .code y_Search_finderX b_Search_finderX 2 (some .int) :: allw) B.pre w (List.mem_cons_of_mem _ h)
  have hown : s.vm.findClass R_Search = some m.cls := findClass_of_methodNamed B.named
  have hlocks := B.notSynchronized
  have hS : va_S (fun _ => False) s.heap s.heap [] := va_S.rf
  have hP : va_P (dC, dI) vwCl [(hq, .inr (3, [.ref hp, .ref hst, .int lim, .int thd, .int md, .int sz0, .int tm, .int tx, .int ty, .int sx, .int sy, .ref hqf, .ref hkn, .int stp])), (hp, .inr (0, [.int pw, .int ph, .ref hw, .ref hs, .int psr])), (hs, .inl (kS, 263169, .inl fs))] s.heap := hP
  have hl := lv_entry ([.ref hq, .int a1]) (n := 2) (Nat.le_of_ble_eq_true rfl)
  rw [lg_entry_eq]
  generalize (lg_sl ([.ref hq, .int a1]) ++ List.replicate (2 - (lg_sl ([.ref hq, .int a1])).length) Slot.unset).toArray = ls at hl ⊢
  have hl : lv_has ls 2 [(0, .ref hq), (1, .int a1)] := hl
  obtain ⟨hW1, hW2, hH1, hH2, hM1, hM2, hS1, hS2, hX1, hX2, hY1, hY2, hx1, hx2, hy1, hy2⟩ := id hB
  have mS := mul_b2 (a := S - 7) (b := M) (p := 170) (q := 16) (by omega) (by omega) (by omega) (by omega)
  have mS0 := Int.mul_nonneg (show 0 ≤ S - 7 by omega) (show 0 ≤ M by omega)
  refine lv_aload_n hx hb d_Search_finderX_0 rfl (lv_at hl 0 rfl) ?_
  refine va_get (D := (dC, dI)) (ci := 3) (v := .int tx) (C := R_Search) (T := T_Search) (N := 14) hx hb hts i_Search hown hK hP 0 rfl rfl 7 (by decide) (hts _ wd_88) (fun _ h9 => h9) rfl d_Search_finderX_1 ?_
  refine lv_iload_n hx hb d_Search_finderX_4 rfl (lv_at hl 1 rfl) ?_
  have hPc := hP.sub (ws' := []) [] rfl
  have hKc := hK.sub (tys' := []) [] rfl
  refine va_calli (va_runS (As := [.int a1]) (rest := [.int tx]) ⟨hx, hb, hml, hown, hts⟩ (c_isRight l dC dI a1 k g1) (aw_S 1 hts wd_439 wd_440 wd_2 wd_441 rfl rfl (by decide +kernel) ⟨Nat.le_of_ble_eq_true rfl, Nat.le_of_ble_eq_true rfl⟩) ⟨ro_blind, ro_pre hPc hKc⟩ rfl rfl hl.1 rfl (lv_room (Nat.le_of_ble_eq_true rfl)) d_Search_finderX_5 ⟨Nat.le_of_ble_eq_true rfl, Nat.le_of_ble_eq_true rfl⟩) hS (fun q _ h => h.elim) (fun q h => h.elim) (fun v5 _ t H5 locs ht hvm h5 hB hz1 hk1 hS => ?_)
  have hP := ro_keep hP hk1
  clear hPc hKc ht hvm hB hz1 hk1
  refine lv_if_eq (tgt := 26) hx hb d_Search_finderX_8 (by decide) (fun c8 => ?_) (fun c8 => ?_)
  · skip
    have c8 : ¬ (k = 1 ∨ k = 2) := bi_z h5 c8
    refine lv_iconst (v := 0) hx hb d_Search_finderX_26 (by decide) ?_
    refine lv_iadd hx hb d_Search_finderX_27 ?_
    refine lv_topi (fun v27 e27 => ?_)
    have h27 : v27.toInt = TX + 0 := by rw [e27]; exact ti_add htx (ti_k (by decide)) (by omega) (by omega)
    have hpost : (v27 : Int32).toInt = TX + if k = 1 ∨ k = 2 then (S - 7) * M else 0 := by
      rw [h27, if_neg c8]
    exact W.iret (v := v27) hx hb hr (fun t ht hW => ⟨⟨v27, (), rfl, hpost, trivial⟩, hS.F ht⟩) hS.2.2 d_Search_finderX_28
  · skip
    have c8 : k = 1 ∨ k = 2 := bi_nz h5 c8
    refine lv_aload_n hx hb d_Search_finderX_11 rfl (lv_at hl 0 rfl) ?_
    refine va_get (D := (dC, dI)) (ci := 3) (v := .int sz0) (C := R_Search) (T := T_Search) (N := 14) hx hb hts i_Search hown hK hP 0 rfl rfl 5 (by decide) (hts _ wd_86) (fun _ h9 => h9) rfl d_Search_finderX_12 ?_
    refine lv_bipush (v := 7) hx hb d_Search_finderX_15 (by decide) ?_
    refine lv_isub hx hb d_Search_finderX_17 ?_
    refine lv_topi (fun v17 e17 => ?_)
    have h17 : v17.toInt = S - 7 := by rw [e17]; exact ti_sub hsz0 (ti_k (by decide)) (by omega) (by omega)
    refine lv_aload_n hx hb d_Search_finderX_18 rfl (lv_at hl 0 rfl) ?_
    refine va_get (D := (dC, dI)) (ci := 3) (v := .int md) (C := R_Search) (T := T_Search) (N := 14) hx hb hts i_Search hown hK hP 0 rfl rfl 4 (by decide) (hts _ wd_85) (fun _ h9 => h9) rfl d_Search_finderX_19 ?_
    refine lv_imul hx hb d_Search_finderX_22 ?_
    refine lv_topi (fun v22 e22 => ?_)
    have h22 : v22.toInt = (S - 7) * M := by rw [e22]; exact ti_mul h17 hmd (by omega) (by omega)
    refine lv_goto (tgt := 27) hx hb d_Search_finderX_23 (by decide) ?_
    refine lv_iadd hx hb d_Search_finderX_27 ?_
    refine lv_topi (fun v27 e27 => ?_)
    have h27 : v27.toInt = TX + ((S - 7) * M) := by rw [e27]; exact ti_add htx h22 (by omega) (by omega)
    have hpost : (v27 : Int32).toInt = TX + if k = 1 ∨ k = 2 then (S - 7) * M else 0 := by
      rw [h27, if_pos c8]
    exact W.iret (v := v27) hx hb hr (fun t ht hW => ⟨⟨v27, (), rfl, hpost, trivial⟩, hS.F ht⟩) hS.2.2 d_Search_finderX_28

set_option maxHeartbeats 4000000 in
set_option maxRecDepth 100000 in
theorem c_finderY (l : Launch) (dC : Nat → ClassId) (dI : Nat → Nat → Nat) (hq hp hw hs hst hqf hkn : Nat) (kS : ClassId) (pw ph psr lim thd md sz0 tm tx ty sx sy stp : Int32) (fs : Nat → Int32) (Wd Ht M S TX TY SX SY : Int) (D : Int → Int → Bool) (hpw : pw.toInt = Wd) (hph : ph.toInt = Ht) (hmd : md.toInt = M) (hsz0 : sz0.toInt = S) (htx : tx.toInt = TX) (hty : ty.toInt = TY) (hsx : sx.toInt = SX) (hsy : sy.toInt = SY) (hB : sBnd Wd Ht M S TX TY SX SY) (hsum : ∀ x y, 0 ≤ x → x ≤ Wd → 0 ≤ y → y ≤ Ht → (fs (y * 513 + x).toNat).toInt = cI D 0 0 x y) (a1 : Int32) (k : Int) (g1 : a1.toInt = k) (hk0 : 0 ≤ k) (hk3 : k ≤ 3) : Met l y_Search_finderY (.code y_Search_finderY b_Search_finderY 2 (some .int) :: allw) ({ frames := 1, cells := 0, slots := 0, locals := 20 }) (va_Pc [.ref hq, .int a1] (ro_B (dC, dI) vwCl [(hq, .inr (3, [.ref hp, .ref hst, .int lim, .int thd, .int md, .int sz0, .int tm, .int tx, .int ty, .int sx, .int sy, .ref hqf, .ref hkn, .int stp])), (hp, .inr (0, [.int pw, .int ph, .ref hw, .ref hs, .int psr])), (hs, .inl (kS, 263169, .inl fs))] [(kS, .int)])) (va_Qi (fun (r : Int32) (_ : Unit) => r.toInt = TY + if 2 ≤ k then (S - 7) * M else 0) (fun _ _ => True) (fun _ => False)) 0 0 (fun _ => False) := by
  refine Met.ofW (cc := b_Search_finderY) (maxL := 2) (ret := (some .int)) (by decide) rfl ?_
  intro p e s m args below meth c s₁ B hml hv
  obtain ⟨rfl, hP, hK⟩ := hv
  have hx := B.exec
  have hb := B.bytes
  have hr := B.returns
  have hts : ∀ w ∈ allw, w.before _ s = true := fun w h => atoms_spec (ws := .code y_Search_finderY b_Search_finderY 2 (some .int) :: allw) B.pre w (List.mem_cons_of_mem _ h)
  have hown : s.vm.findClass R_Search = some m.cls := findClass_of_methodNamed B.named
  have hlocks := B.notSynchronized
  have hS : va_S (fun _ => False) s.heap s.heap [] := va_S.rf
  have hP : va_P (dC, dI) vwCl [(hq, .inr (3, [.ref hp, .ref hst, .int lim, .int thd, .int md, .int sz0, .int tm, .int tx, .int ty, .int sx, .int sy, .ref hqf, .ref hkn, .int stp])), (hp, .inr (0, [.int pw, .int ph, .ref hw, .ref hs, .int psr])), (hs, .inl (kS, 263169, .inl fs))] s.heap := hP
  have hl := lv_entry ([.ref hq, .int a1]) (n := 2) (Nat.le_of_ble_eq_true rfl)
  rw [lg_entry_eq]
  generalize (lg_sl ([.ref hq, .int a1]) ++ List.replicate (2 - (lg_sl ([.ref hq, .int a1])).length) Slot.unset).toArray = ls at hl ⊢
  have hl : lv_has ls 2 [(0, .ref hq), (1, .int a1)] := hl
  obtain ⟨hW1, hW2, hH1, hH2, hM1, hM2, hS1, hS2, hX1, hX2, hY1, hY2, hx1, hx2, hy1, hy2⟩ := id hB
  have mS := mul_b2 (a := S - 7) (b := M) (p := 170) (q := 16) (by omega) (by omega) (by omega) (by omega)
  have mS0 := Int.mul_nonneg (show 0 ≤ S - 7 by omega) (show 0 ≤ M by omega)
  refine lv_aload_n hx hb d_Search_finderY_0 rfl (lv_at hl 0 rfl) ?_
  refine va_get (D := (dC, dI)) (ci := 3) (v := .int ty) (C := R_Search) (T := T_Search) (N := 14) hx hb hts i_Search hown hK hP 0 rfl rfl 8 (by decide) (hts _ wd_89) (fun _ h9 => h9) rfl d_Search_finderY_1 ?_
  refine lv_iload_n hx hb d_Search_finderY_4 rfl (lv_at hl 1 rfl) ?_
  have hPc := hP.sub (ws' := []) [] rfl
  have hKc := hK.sub (tys' := []) [] rfl
  refine va_calli (va_runS (As := [.int a1]) (rest := [.int ty]) ⟨hx, hb, hml, hown, hts⟩ (c_isLow l dC dI a1 k g1) (aw_S 1 hts wd_442 wd_443 wd_2 wd_444 rfl rfl (by decide +kernel) ⟨Nat.le_of_ble_eq_true rfl, Nat.le_of_ble_eq_true rfl⟩) ⟨ro_blind, ro_pre hPc hKc⟩ rfl rfl hl.1 rfl (lv_room (Nat.le_of_ble_eq_true rfl)) d_Search_finderY_5 ⟨Nat.le_of_ble_eq_true rfl, Nat.le_of_ble_eq_true rfl⟩) hS (fun q _ h => h.elim) (fun q h => h.elim) (fun v5 _ t H5 locs ht hvm h5 hB hz1 hk1 hS => ?_)
  have hP := ro_keep hP hk1
  clear hPc hKc ht hvm hB hz1 hk1
  refine lv_if_eq (tgt := 26) hx hb d_Search_finderY_8 (by decide) (fun c8 => ?_) (fun c8 => ?_)
  · skip
    have c8 : ¬ (2 ≤ k) := bi_z h5 c8
    refine lv_iconst (v := 0) hx hb d_Search_finderY_26 (by decide) ?_
    refine lv_iadd hx hb d_Search_finderY_27 ?_
    refine lv_topi (fun v27 e27 => ?_)
    have h27 : v27.toInt = TY + 0 := by rw [e27]; exact ti_add hty (ti_k (by decide)) (by omega) (by omega)
    have hpost : (v27 : Int32).toInt = TY + if 2 ≤ k then (S - 7) * M else 0 := by
      rw [h27, if_neg c8]
    exact W.iret (v := v27) hx hb hr (fun t ht hW => ⟨⟨v27, (), rfl, hpost, trivial⟩, hS.F ht⟩) hS.2.2 d_Search_finderY_28
  · skip
    have c8 : 2 ≤ k := bi_nz h5 c8
    refine lv_aload_n hx hb d_Search_finderY_11 rfl (lv_at hl 0 rfl) ?_
    refine va_get (D := (dC, dI)) (ci := 3) (v := .int sz0) (C := R_Search) (T := T_Search) (N := 14) hx hb hts i_Search hown hK hP 0 rfl rfl 5 (by decide) (hts _ wd_86) (fun _ h9 => h9) rfl d_Search_finderY_12 ?_
    refine lv_bipush (v := 7) hx hb d_Search_finderY_15 (by decide) ?_
    refine lv_isub hx hb d_Search_finderY_17 ?_
    refine lv_topi (fun v17 e17 => ?_)
    have h17 : v17.toInt = S - 7 := by rw [e17]; exact ti_sub hsz0 (ti_k (by decide)) (by omega) (by omega)
    refine lv_aload_n hx hb d_Search_finderY_18 rfl (lv_at hl 0 rfl) ?_
    refine va_get (D := (dC, dI)) (ci := 3) (v := .int md) (C := R_Search) (T := T_Search) (N := 14) hx hb hts i_Search hown hK hP 0 rfl rfl 4 (by decide) (hts _ wd_85) (fun _ h9 => h9) rfl d_Search_finderY_19 ?_
    refine lv_imul hx hb d_Search_finderY_22 ?_
    refine lv_topi (fun v22 e22 => ?_)
    have h22 : v22.toInt = (S - 7) * M := by rw [e22]; exact ti_mul h17 hmd (by omega) (by omega)
    refine lv_goto (tgt := 27) hx hb d_Search_finderY_23 (by decide) ?_
    refine lv_iadd hx hb d_Search_finderY_27 ?_
    refine lv_topi (fun v27 e27 => ?_)
    have h27 : v27.toInt = TY + ((S - 7) * M) := by rw [e27]; exact ti_add hty h22 (by omega) (by omega)
    have hpost : (v27 : Int32).toInt = TY + if 2 ≤ k then (S - 7) * M else 0 := by
      rw [h27, if_pos c8]
    exact W.iret (v := v27) hx hb hr (fun t ht hW => ⟨⟨v27, (), rfl, hpost, trivial⟩, hS.F ht⟩) hS.2.2 d_Search_finderY_28

set_option maxHeartbeats 4000000 in
set_option maxRecDepth 100000 in
theorem c_lineX (l : Launch) (dC : Nat → ClassId) (dI : Nat → Nat → Nat) (hq hp hw hs hst hqf hkn : Nat) (kS : ClassId) (pw ph psr lim thd md sz0 tm tx ty sx sy stp : Int32) (fs : Nat → Int32) (Wd Ht M S TX TY SX SY : Int) (D : Int → Int → Bool) (hpw : pw.toInt = Wd) (hph : ph.toInt = Ht) (hmd : md.toInt = M) (hsz0 : sz0.toInt = S) (htx : tx.toInt = TX) (hty : ty.toInt = TY) (hsx : sx.toInt = SX) (hsy : sy.toInt = SY) (hB : sBnd Wd Ht M S TX TY SX SY) (hsum : ∀ x y, 0 ≤ x → x ≤ Wd → 0 ≤ y → y ≤ Ht → (fs (y * 513 + x).toNat).toInt = cI D 0 0 x y) (a1 : Int32) (k : Int) (g1 : a1.toInt = k) (hk0 : 0 ≤ k) (hk3 : k ≤ 3) : Met l y_Search_lineX (.code y_Search_lineX b_Search_lineX 2 (some .int) :: allw) ({ frames := 0, cells := 0, slots := 0, locals := 0 }) (va_Pc [.ref hq, .int a1] (ro_B (dC, dI) vwCl [(hq, .inr (3, [.ref hp, .ref hst, .int lim, .int thd, .int md, .int sz0, .int tm, .int tx, .int ty, .int sx, .int sy, .ref hqf, .ref hkn, .int stp])), (hp, .inr (0, [.int pw, .int ph, .ref hw, .ref hs, .int psr])), (hs, .inl (kS, 263169, .inl fs))] [(kS, .int)])) (va_Qi (fun (r : Int32) (_ : Unit) => r.toInt = TX + M * (if k = 1 then S - 7 else if k = 3 then 6 else 8)) (fun _ _ => True) (fun _ => False)) 0 0 (fun _ => False) := by
  refine Met.ofW (cc := b_Search_lineX) (maxL := 2) (ret := (some .int)) (by decide) rfl ?_
  intro p e s m args below meth c s₁ B hml hv
  obtain ⟨rfl, hP, hK⟩ := hv
  have hx := B.exec
  have hb := B.bytes
  have hr := B.returns
  have hts : ∀ w ∈ allw, w.before _ s = true := fun w h => atoms_spec (ws := .code y_Search_lineX b_Search_lineX 2 (some .int) :: allw) B.pre w (List.mem_cons_of_mem _ h)
  have hown : s.vm.findClass R_Search = some m.cls := findClass_of_methodNamed B.named
  have hlocks := B.notSynchronized
  have hS : va_S (fun _ => False) s.heap s.heap [] := va_S.rf
  have hP : va_P (dC, dI) vwCl [(hq, .inr (3, [.ref hp, .ref hst, .int lim, .int thd, .int md, .int sz0, .int tm, .int tx, .int ty, .int sx, .int sy, .ref hqf, .ref hkn, .int stp])), (hp, .inr (0, [.int pw, .int ph, .ref hw, .ref hs, .int psr])), (hs, .inl (kS, 263169, .inl fs))] s.heap := hP
  have hl := lv_entry ([.ref hq, .int a1]) (n := 2) (Nat.le_of_ble_eq_true rfl)
  rw [lg_entry_eq]
  generalize (lg_sl ([.ref hq, .int a1]) ++ List.replicate (2 - (lg_sl ([.ref hq, .int a1])).length) Slot.unset).toArray = ls at hl ⊢
  have hl : lv_has ls 2 [(0, .ref hq), (1, .int a1)] := hl
  obtain ⟨hW1, hW2, hH1, hH2, hM1, hM2, hS1, hS2, hX1, hX2, hY1, hY2, hx1, hx2, hy1, hy2⟩ := id hB
  have mS := mul_b2 (a := M) (b := S - 7) (p := 16) (q := 170) (by omega) (by omega) (by omega) (by omega)
  have mS0 := Int.mul_nonneg (show 0 ≤ M by omega) (show 0 ≤ S - 7 by omega)
  refine lv_aload_n hx hb d_Search_lineX_0 rfl (lv_at hl 0 rfl) ?_
  refine va_get (D := (dC, dI)) (ci := 3) (v := .int tx) (C := R_Search) (T := T_Search) (N := 14) hx hb hts i_Search hown hK hP 0 rfl rfl 7 (by decide) (hts _ wd_88) (fun _ h9 => h9) rfl d_Search_lineX_1 ?_
  refine lv_aload_n hx hb d_Search_lineX_4 rfl (lv_at hl 0 rfl) ?_
  refine va_get (D := (dC, dI)) (ci := 3) (v := .int md) (C := R_Search) (T := T_Search) (N := 14) hx hb hts i_Search hown hK hP 0 rfl rfl 4 (by decide) (hts _ wd_85) (fun _ h9 => h9) rfl d_Search_lineX_5 ?_
  refine lv_iload_n hx hb d_Search_lineX_8 rfl (lv_at hl 1 rfl) ?_
  refine lv_iconst (v := 1) hx hb d_Search_lineX_9 (by decide) ?_
  refine lv_icmp_ne (tgt := 23) hx hb d_Search_lineX_10 (by decide) (fun c10 => ?_) (fun c10 => ?_)
  · skip
    have c10 : ¬ (k = 1) := fun q => c10 ((ti_eq g1 (ti_k (by decide))).mpr q)
    refine lv_iload_n hx hb d_Search_lineX_23 rfl (lv_at hl 1 rfl) ?_
    refine lv_iconst (v := 3) hx hb d_Search_lineX_24 (by decide) ?_
    refine lv_icmp_ne (tgt := 33) hx hb d_Search_lineX_25 (by decide) (fun c25 => ?_) (fun c25 => ?_)
    · skip
      have c25 : ¬ (k = 3) := fun q => c25 ((ti_eq g1 (ti_k (by decide))).mpr q)
      refine lv_bipush (v := 8) hx hb d_Search_lineX_33 (by decide) ?_
      refine lv_imul hx hb d_Search_lineX_35 ?_
      refine lv_topi (fun v35 e35 => ?_)
      have h35 : v35.toInt = M * 8 := by rw [e35]; exact ti_mul hmd (ti_k (by decide)) (by omega) (by omega)
      refine lv_iadd hx hb d_Search_lineX_36 ?_
      refine lv_topi (fun v36 e36 => ?_)
      have h36 : v36.toInt = TX + (M * 8) := by rw [e36]; exact ti_add htx h35 (by omega) (by omega)
      have hpost : (v36 : Int32).toInt = TX + M * (if k = 1 then S - 7 else if k = 3 then 6 else 8) := by
        rw [h36, if_neg c10, if_neg c25]
      exact W.iret (v := v36) hx hb hr (fun t ht hW => ⟨⟨v36, (), rfl, hpost, trivial⟩, hS.F ht⟩) hS.2.2 d_Search_lineX_37
    · skip
      have c25 : k = 3 := (ti_eq g1 (ti_k (by decide))).mp c25
      refine lv_bipush (v := 6) hx hb d_Search_lineX_28 (by decide) ?_
      refine lv_goto (tgt := 35) hx hb d_Search_lineX_30 (by decide) ?_
      refine lv_imul hx hb d_Search_lineX_35 ?_
      refine lv_topi (fun v35 e35 => ?_)
      have h35 : v35.toInt = M * 6 := by rw [e35]; exact ti_mul hmd (ti_k (by decide)) (by omega) (by omega)
      refine lv_iadd hx hb d_Search_lineX_36 ?_
      refine lv_topi (fun v36 e36 => ?_)
      have h36 : v36.toInt = TX + (M * 6) := by rw [e36]; exact ti_add htx h35 (by omega) (by omega)
      have hpost : (v36 : Int32).toInt = TX + M * (if k = 1 then S - 7 else if k = 3 then 6 else 8) := by
        rw [h36, if_neg c10, if_pos c25]
      exact W.iret (v := v36) hx hb hr (fun t ht hW => ⟨⟨v36, (), rfl, hpost, trivial⟩, hS.F ht⟩) hS.2.2 d_Search_lineX_37
  · skip
    have c10 : k = 1 := (ti_eq g1 (ti_k (by decide))).mp c10
    refine lv_aload_n hx hb d_Search_lineX_13 rfl (lv_at hl 0 rfl) ?_
    refine va_get (D := (dC, dI)) (ci := 3) (v := .int sz0) (C := R_Search) (T := T_Search) (N := 14) hx hb hts i_Search hown hK hP 0 rfl rfl 5 (by decide) (hts _ wd_86) (fun _ h9 => h9) rfl d_Search_lineX_14 ?_
    refine lv_bipush (v := 7) hx hb d_Search_lineX_17 (by decide) ?_
    refine lv_isub hx hb d_Search_lineX_19 ?_
    refine lv_topi (fun v19 e19 => ?_)
    have h19 : v19.toInt = S - 7 := by rw [e19]; exact ti_sub hsz0 (ti_k (by decide)) (by omega) (by omega)
    refine lv_goto (tgt := 35) hx hb d_Search_lineX_20 (by decide) ?_
    refine lv_imul hx hb d_Search_lineX_35 ?_
    refine lv_topi (fun v35 e35 => ?_)
    have h35 : v35.toInt = M * (S - 7) := by rw [e35]; exact ti_mul hmd h19 (by omega) (by omega)
    refine lv_iadd hx hb d_Search_lineX_36 ?_
    refine lv_topi (fun v36 e36 => ?_)
    have h36 : v36.toInt = TX + (M * (S - 7)) := by rw [e36]; exact ti_add htx h35 (by omega) (by omega)
    have hpost : (v36 : Int32).toInt = TX + M * (if k = 1 then S - 7 else if k = 3 then 6 else 8) := by
      rw [h36, if_pos c10]
    exact W.iret (v := v36) hx hb hr (fun t ht hW => ⟨⟨v36, (), rfl, hpost, trivial⟩, hS.F ht⟩) hS.2.2 d_Search_lineX_37

set_option maxHeartbeats 4000000 in
set_option maxRecDepth 100000 in
theorem c_lineY (l : Launch) (dC : Nat → ClassId) (dI : Nat → Nat → Nat) (hq hp hw hs hst hqf hkn : Nat) (kS : ClassId) (pw ph psr lim thd md sz0 tm tx ty sx sy stp : Int32) (fs : Nat → Int32) (Wd Ht M S TX TY SX SY : Int) (D : Int → Int → Bool) (hpw : pw.toInt = Wd) (hph : ph.toInt = Ht) (hmd : md.toInt = M) (hsz0 : sz0.toInt = S) (htx : tx.toInt = TX) (hty : ty.toInt = TY) (hsx : sx.toInt = SX) (hsy : sy.toInt = SY) (hB : sBnd Wd Ht M S TX TY SX SY) (hsum : ∀ x y, 0 ≤ x → x ≤ Wd → 0 ≤ y → y ≤ Ht → (fs (y * 513 + x).toNat).toInt = cI D 0 0 x y) (a1 : Int32) (k : Int) (g1 : a1.toInt = k) (hk0 : 0 ≤ k) (hk3 : k ≤ 3) : Met l y_Search_lineY (.code y_Search_lineY b_Search_lineY 2 (some .int) :: allw) ({ frames := 0, cells := 0, slots := 0, locals := 0 }) (va_Pc [.ref hq, .int a1] (ro_B (dC, dI) vwCl [(hq, .inr (3, [.ref hp, .ref hst, .int lim, .int thd, .int md, .int sz0, .int tm, .int tx, .int ty, .int sx, .int sy, .ref hqf, .ref hkn, .int stp])), (hp, .inr (0, [.int pw, .int ph, .ref hw, .ref hs, .int psr])), (hs, .inl (kS, 263169, .inl fs))] [(kS, .int)])) (va_Qi (fun (r : Int32) (_ : Unit) => r.toInt = TY + M * (if k = 0 then 6 else if k = 2 then S - 7 else 8)) (fun _ _ => True) (fun _ => False)) 0 0 (fun _ => False) := by
  refine Met.ofW (cc := b_Search_lineY) (maxL := 2) (ret := (some .int)) (by decide) rfl ?_
  intro p e s m args below meth c s₁ B hml hv
  obtain ⟨rfl, hP, hK⟩ := hv
  have hx := B.exec
  have hb := B.bytes
  have hr := B.returns
  have hts : ∀ w ∈ allw, w.before _ s = true := fun w h => atoms_spec (ws := .code y_Search_lineY b_Search_lineY 2 (some .int) :: allw) B.pre w (List.mem_cons_of_mem _ h)
  have hown : s.vm.findClass R_Search = some m.cls := findClass_of_methodNamed B.named
  have hlocks := B.notSynchronized
  have hS : va_S (fun _ => False) s.heap s.heap [] := va_S.rf
  have hP : va_P (dC, dI) vwCl [(hq, .inr (3, [.ref hp, .ref hst, .int lim, .int thd, .int md, .int sz0, .int tm, .int tx, .int ty, .int sx, .int sy, .ref hqf, .ref hkn, .int stp])), (hp, .inr (0, [.int pw, .int ph, .ref hw, .ref hs, .int psr])), (hs, .inl (kS, 263169, .inl fs))] s.heap := hP
  have hl := lv_entry ([.ref hq, .int a1]) (n := 2) (Nat.le_of_ble_eq_true rfl)
  rw [lg_entry_eq]
  generalize (lg_sl ([.ref hq, .int a1]) ++ List.replicate (2 - (lg_sl ([.ref hq, .int a1])).length) Slot.unset).toArray = ls at hl ⊢
  have hl : lv_has ls 2 [(0, .ref hq), (1, .int a1)] := hl
  obtain ⟨hW1, hW2, hH1, hH2, hM1, hM2, hS1, hS2, hX1, hX2, hY1, hY2, hx1, hx2, hy1, hy2⟩ := id hB
  have mS := mul_b2 (a := M) (b := S - 7) (p := 16) (q := 170) (by omega) (by omega) (by omega) (by omega)
  have mS0 := Int.mul_nonneg (show 0 ≤ M by omega) (show 0 ≤ S - 7 by omega)
  refine lv_aload_n hx hb d_Search_lineY_0 rfl (lv_at hl 0 rfl) ?_
  refine va_get (D := (dC, dI)) (ci := 3) (v := .int ty) (C := R_Search) (T := T_Search) (N := 14) hx hb hts i_Search hown hK hP 0 rfl rfl 8 (by decide) (hts _ wd_89) (fun _ h9 => h9) rfl d_Search_lineY_1 ?_
  refine lv_aload_n hx hb d_Search_lineY_4 rfl (lv_at hl 0 rfl) ?_
  refine va_get (D := (dC, dI)) (ci := 3) (v := .int md) (C := R_Search) (T := T_Search) (N := 14) hx hb hts i_Search hown hK hP 0 rfl rfl 4 (by decide) (hts _ wd_85) (fun _ h9 => h9) rfl d_Search_lineY_5 ?_
  refine lv_iload_n hx hb d_Search_lineY_8 rfl (lv_at hl 1 rfl) ?_
  refine lv_if_ne (tgt := 17) hx hb d_Search_lineY_9 (by decide) (fun c9 => ?_) (fun c9 => ?_)
  · skip
    have c9 : ¬ (k = 0) := fun q => c9 ((ti_eq g1 (ti_k (by decide))).mpr q)
    refine lv_iload_n hx hb d_Search_lineY_17 rfl (lv_at hl 1 rfl) ?_
    refine lv_iconst (v := 2) hx hb d_Search_lineY_18 (by decide) ?_
    refine lv_icmp_ne (tgt := 32) hx hb d_Search_lineY_19 (by decide) (fun c19 => ?_) (fun c19 => ?_)
    · skip
      have c19 : ¬ (k = 2) := fun q => c19 ((ti_eq g1 (ti_k (by decide))).mpr q)
      refine lv_bipush (v := 8) hx hb d_Search_lineY_32 (by decide) ?_
      refine lv_imul hx hb d_Search_lineY_34 ?_
      refine lv_topi (fun v34 e34 => ?_)
      have h34 : v34.toInt = M * 8 := by rw [e34]; exact ti_mul hmd (ti_k (by decide)) (by omega) (by omega)
      refine lv_iadd hx hb d_Search_lineY_35 ?_
      refine lv_topi (fun v35 e35 => ?_)
      have h35 : v35.toInt = TY + (M * 8) := by rw [e35]; exact ti_add hty h34 (by omega) (by omega)
      have hpost : (v35 : Int32).toInt = TY + M * (if k = 0 then 6 else if k = 2 then S - 7 else 8) := by
        rw [h35, if_neg c9, if_neg c19]
      exact W.iret (v := v35) hx hb hr (fun t ht hW => ⟨⟨v35, (), rfl, hpost, trivial⟩, hS.F ht⟩) hS.2.2 d_Search_lineY_36
    · skip
      have c19 : k = 2 := (ti_eq g1 (ti_k (by decide))).mp c19
      refine lv_aload_n hx hb d_Search_lineY_22 rfl (lv_at hl 0 rfl) ?_
      refine va_get (D := (dC, dI)) (ci := 3) (v := .int sz0) (C := R_Search) (T := T_Search) (N := 14) hx hb hts i_Search hown hK hP 0 rfl rfl 5 (by decide) (hts _ wd_86) (fun _ h9 => h9) rfl d_Search_lineY_23 ?_
      refine lv_bipush (v := 7) hx hb d_Search_lineY_26 (by decide) ?_
      refine lv_isub hx hb d_Search_lineY_28 ?_
      refine lv_topi (fun v28 e28 => ?_)
      have h28 : v28.toInt = S - 7 := by rw [e28]; exact ti_sub hsz0 (ti_k (by decide)) (by omega) (by omega)
      refine lv_goto (tgt := 34) hx hb d_Search_lineY_29 (by decide) ?_
      refine lv_imul hx hb d_Search_lineY_34 ?_
      refine lv_topi (fun v34 e34 => ?_)
      have h34 : v34.toInt = M * (S - 7) := by rw [e34]; exact ti_mul hmd h28 (by omega) (by omega)
      refine lv_iadd hx hb d_Search_lineY_35 ?_
      refine lv_topi (fun v35 e35 => ?_)
      have h35 : v35.toInt = TY + (M * (S - 7)) := by rw [e35]; exact ti_add hty h34 (by omega) (by omega)
      have hpost : (v35 : Int32).toInt = TY + M * (if k = 0 then 6 else if k = 2 then S - 7 else 8) := by
        rw [h35, if_neg c9, if_pos c19]
      exact W.iret (v := v35) hx hb hr (fun t ht hW => ⟨⟨v35, (), rfl, hpost, trivial⟩, hS.F ht⟩) hS.2.2 d_Search_lineY_36
  · skip
    have c9 : k = 0 := (ti_eq g1 (ti_k (by decide))).mp c9
    refine lv_bipush (v := 6) hx hb d_Search_lineY_12 (by decide) ?_
    refine lv_goto (tgt := 34) hx hb d_Search_lineY_14 (by decide) ?_
    refine lv_imul hx hb d_Search_lineY_34 ?_
    refine lv_topi (fun v34 e34 => ?_)
    have h34 : v34.toInt = M * 6 := by rw [e34]; exact ti_mul hmd (ti_k (by decide)) (by omega) (by omega)
    refine lv_iadd hx hb d_Search_lineY_35 ?_
    refine lv_topi (fun v35 e35 => ?_)
    have h35 : v35.toInt = TY + (M * 6) := by rw [e35]; exact ti_add hty h34 (by omega) (by omega)
    have hpost : (v35 : Int32).toInt = TY + M * (if k = 0 then 6 else if k = 2 then S - 7 else 8) := by
      rw [h35, if_pos c9]
    exact W.iret (v := v35) hx hb hr (fun t ht hW => ⟨⟨v35, (), rfl, hpost, trivial⟩, hS.F ht⟩) hS.2.2 d_Search_lineY_36

set_option maxHeartbeats 4000000 in
set_option maxRecDepth 100000 in
theorem c_finderFloor (l : Launch) (dC : Nat → ClassId) (dI : Nat → Nat → Nat) (hq hp hw hs hst hqf hkn : Nat) (kS : ClassId) (pw ph psr lim thd md sz0 tm tx ty sx sy stp : Int32) (fs : Nat → Int32) (Wd Ht M S TX TY SX SY : Int) (D : Int → Int → Bool) (hpw : pw.toInt = Wd) (hph : ph.toInt = Ht) (hmd : md.toInt = M) (hsz0 : sz0.toInt = S) (htx : tx.toInt = TX) (hty : ty.toInt = TY) (hsx : sx.toInt = SX) (hsy : sy.toInt = SY) (hB : sBnd Wd Ht M S TX TY SX SY) (hsum : ∀ x y, 0 ≤ x → x ≤ Wd → 0 ≤ y → y ≤ Ht → (fs (y * 513 + x).toNat).toInt = cI D 0 0 x y) (a1 a2 : Int32) (x y : Int) (g1 : a1.toInt = x) (g2 : a2.toInt = y) (b1 : 0 ≤ x) (b2 : 0 ≤ y) (b5 : x + 7 * M + SX ≤ Wd) (b6 : y + 7 * M + SY ≤ Ht) : Met l y_Search_finderFloor (.code y_Search_finderFloor b_Search_finderFloor 7 (some .int) :: allw) ({ frames := 2, cells := 0, slots := 0, locals := 54 }) (va_Pc [.ref hq, .int a1, .int a2] (ro_B (dC, dI) vwCl [(hq, .inr (3, [.ref hp, .ref hst, .int lim, .int thd, .int md, .int sz0, .int tm, .int tx, .int ty, .int sx, .int sy, .ref hqf, .ref hkn, .int stp])), (hp, .inr (0, [.int pw, .int ph, .ref hw, .ref hs, .int psr])), (hs, .inl (kS, 263169, .inl fs))] [(kS, .int)])) (va_Qi (fun (r : Int32) (_ : Unit) => (∀ dx dy, 0 ≤ dx → dx ≤ SX → 0 ≤ dy → dy ≤ SY → r.toInt ≤ w7 D M (x + dx) (y + dy)) ∧ -1000000 ≤ r.toInt ∧ r.toInt ≤ 1000000) (fun _ _ => True) (fun _ => False)) 0 0 (fun _ => False) := by
  refine Met.ofW (cc := b_Search_finderFloor) (maxL := 7) (ret := (some .int)) (by decide) rfl ?_
  intro p e s m args below meth c s₁ B hml hv
  obtain ⟨rfl, hP, hK⟩ := hv
  have hx := B.exec
  have hb := B.bytes
  have hr := B.returns
  have hts : ∀ w ∈ allw, w.before _ s = true := fun w h => atoms_spec (ws := .code y_Search_finderFloor b_Search_finderFloor 7 (some .int) :: allw) B.pre w (List.mem_cons_of_mem _ h)
  have hown : s.vm.findClass R_Search = some m.cls := findClass_of_methodNamed B.named
  have hlocks := B.notSynchronized
  have hS : va_S (fun _ => False) s.heap s.heap [] := va_S.rf
  have hP : va_P (dC, dI) vwCl [(hq, .inr (3, [.ref hp, .ref hst, .int lim, .int thd, .int md, .int sz0, .int tm, .int tx, .int ty, .int sx, .int sy, .ref hqf, .ref hkn, .int stp])), (hp, .inr (0, [.int pw, .int ph, .ref hw, .ref hs, .int psr])), (hs, .inl (kS, 263169, .inl fs))] s.heap := hP
  have hl := lv_entry ([.ref hq, .int a1, .int a2]) (n := 7) (Nat.le_of_ble_eq_true rfl)
  rw [lg_entry_eq]
  generalize (lg_sl ([.ref hq, .int a1, .int a2]) ++ List.replicate (7 - (lg_sl ([.ref hq, .int a1, .int a2])).length) Slot.unset).toArray = ls at hl ⊢
  have hl : lv_has ls 7 [(0, .ref hq), (1, .int a1), (2, .int a2)] := hl
  obtain ⟨hW1, hW2, hH1, hH2, hM1, hM2, hS1, hS2, hX1, hX2, hY1, hY2, hx1, hx2, hy1, hy2⟩ := id hB
  have e9 : 9 * M * M = 9 * (M * M) := Int.mul_assoc _ _ _
  have e24 : 24 * M * M = 24 * (M * M) := Int.mul_assoc _ _ _
  have m2 := mul_b (a := M) (b := M) (n := 16) (by omega) (by omega) (by omega) (by omega)
  have m1 := Int.mul_le_mul (show 1 ≤ M by omega) (show 1 ≤ M by omega) (by omega) (by omega)
  have e3 : 3 * M * (3 * M) = 9 * (M * M) := sq_k 3 M
  have e5 : 5 * M * (5 * M) = 25 * (M * M) := sq_k 5 M
  have e7 : 7 * M * (7 * M) = 49 * (M * M) := sq_k 7 M
  refine lv_aload_n hx hb d_Search_finderFloor_0 rfl (lv_at hl 0 rfl) ?_
  refine va_get (D := (dC, dI)) (ci := 3) (v := .int md) (C := R_Search) (T := T_Search) (N := 14) hx hb hts i_Search hown hK hP 0 rfl rfl 4 (by decide) (hts _ wd_85) (fun _ h9 => h9) rfl d_Search_finderFloor_1 ?_
  refine lv_istore_n (lv' := [(3, .int md), (0, .ref hq), (1, .int a1), (2, .int a2)]) hx hb d_Search_finderFloor_4 rfl hl (by decide) rfl (fun ls hl => ?_)
  refine lv_aload_n hx hb d_Search_finderFloor_5 rfl (lv_at hl 1 rfl) ?_
  refine lv_iload_n hx hb d_Search_finderFloor_6 rfl (lv_at hl 2 rfl) ?_
  refine lv_iconst (v := 2) hx hb d_Search_finderFloor_7 (by decide) ?_
  refine lv_iload_n hx hb d_Search_finderFloor_8 rfl (lv_at hl 0 rfl) ?_
  refine lv_imul hx hb d_Search_finderFloor_9 ?_
  refine lv_topi (fun v9 e9 => ?_)
  have h9 : v9.toInt = 2 * M := by rw [e9]; exact ti_mul (ti_k (by decide)) hmd (by omega) (by omega)
  refine lv_iadd hx hb d_Search_finderFloor_10 ?_
  refine lv_topi (fun v10 e10 => ?_)
  have h10 : v10.toInt = x + (2 * M) := by rw [e10]; exact ti_add g1 h9 (by omega) (by omega)
  refine lv_iload_n hx hb d_Search_finderFloor_11 rfl (lv_at hl 3 rfl) ?_
  refine lv_iconst (v := 2) hx hb d_Search_finderFloor_12 (by decide) ?_
  refine lv_iload_n hx hb d_Search_finderFloor_13 rfl (lv_at hl 0 rfl) ?_
  refine lv_imul hx hb d_Search_finderFloor_14 ?_
  refine lv_topi (fun v14 e14 => ?_)
  have h14 : v14.toInt = 2 * M := by rw [e14]; exact ti_mul (ti_k (by decide)) hmd (by omega) (by omega)
  refine lv_iadd hx hb d_Search_finderFloor_15 ?_
  refine lv_topi (fun v15 e15 => ?_)
  have h15 : v15.toInt = y + (2 * M) := by rw [e15]; exact ti_add g2 h14 (by omega) (by omega)
  refine lv_iconst (v := 3) hx hb d_Search_finderFloor_16 (by decide) ?_
  refine lv_iload_n hx hb d_Search_finderFloor_17 rfl (lv_at hl 0 rfl) ?_
  refine lv_imul hx hb d_Search_finderFloor_18 ?_
  refine lv_topi (fun v18 e18 => ?_)
  have h18 : v18.toInt = 3 * M := by rw [e18]; exact ti_mul (ti_k (by decide)) hmd (by omega) (by omega)
  refine lv_iconst (v := 3) hx hb d_Search_finderFloor_19 (by decide) ?_
  refine lv_iload_n hx hb d_Search_finderFloor_20 rfl (lv_at hl 0 rfl) ?_
  refine lv_imul hx hb d_Search_finderFloor_21 ?_
  refine lv_topi (fun v21 e21 => ?_)
  have h21 : v21.toInt = 3 * M := by rw [e21]; exact ti_mul (ti_k (by decide)) hmd (by omega) (by omega)
  have hPc := hP.sub (ws' := [(hq, .inr (3, [.ref hp, .ref hst, .int lim, .int thd, .int md, .int sz0, .int tm, .int tx, .int ty, .int sx, .int sy, .ref hqf, .ref hkn, .int stp])), (hp, .inr (0, [.int pw, .int ph, .ref hw, .ref hs, .int psr])), (hs, .inl (kS, 263169, .inl fs))]) [0, 1, 2] rfl
  have hKc := hK.sub (tys' := [(kS, .int)]) [0] rfl
  refine va_calli (va_runV (As := [.int v10, .int v15, .int v18, .int v21]) (rest := []) ⟨hx, hb, hml, hown, hts⟩ (c_mostDark l dC dI hq hp hw hs hst hqf hkn kS pw ph psr lim thd md sz0 tm tx ty sx sy stp fs Wd Ht M S TX TY SX SY D hpw hph hmd hsz0 htx hty hsx hsy hB hsum v10 v15 v18 v21 (x + (2 * M)) (y + (2 * M)) (3 * M) (3 * M) h10 h15 h18 h21 (by omega) (by omega) (by omega) (by omega) (by omega) (by omega)) (aw_V 4 hts wd_410 wd_412 ws_9 wd_2 wd_413 rfl rfl (by decide +kernel) ⟨Nat.le_of_ble_eq_true rfl, Nat.le_of_ble_eq_true rfl⟩) ⟨ro_blind, va_recv hKc hPc (ci := 3) (q0 := 0) rfl rfl, ro_pre hPc hKc⟩ rfl rfl hl.1 rfl (lv_room (Nat.le_of_ble_eq_true rfl)) d_Search_finderFloor_22 ⟨Nat.le_of_ble_eq_true rfl, Nat.le_of_ble_eq_true rfl⟩) hS (fun q _ h => h.elim) (fun q h => h.elim) (fun v22 _ t H22 locs ht hvm h22 hB hz1 hk1 hS => ?_)
  have hP := ro_keep hP hk1
  clear hPc hKc ht hvm hB hz1 hk1
  have r22 := h22.2.2
  refine lv_istore (lv' := [(4, .int v22), (3, .int md), (0, .ref hq), (1, .int a1), (2, .int a2)]) hx hb d_Search_finderFloor_25 hl (by decide) rfl (fun ls hl => ?_)
  refine lv_aload_n hx hb d_Search_finderFloor_27 rfl (lv_at hl 2 rfl) ?_
  refine lv_iload_n hx hb d_Search_finderFloor_28 rfl (lv_at hl 3 rfl) ?_
  refine lv_iload_n hx hb d_Search_finderFloor_29 rfl (lv_at hl 1 rfl) ?_
  refine lv_iadd hx hb d_Search_finderFloor_30 ?_
  refine lv_topi (fun v30 e30 => ?_)
  have h30 : v30.toInt = x + M := by rw [e30]; exact ti_add g1 hmd (by omega) (by omega)
  refine lv_iload_n hx hb d_Search_finderFloor_31 rfl (lv_at hl 4 rfl) ?_
  refine lv_iload_n hx hb d_Search_finderFloor_32 rfl (lv_at hl 1 rfl) ?_
  refine lv_iadd hx hb d_Search_finderFloor_33 ?_
  refine lv_topi (fun v33 e33 => ?_)
  have h33 : v33.toInt = y + M := by rw [e33]; exact ti_add g2 hmd (by omega) (by omega)
  refine lv_iconst (v := 5) hx hb d_Search_finderFloor_34 (by decide) ?_
  refine lv_iload_n hx hb d_Search_finderFloor_35 rfl (lv_at hl 1 rfl) ?_
  refine lv_imul hx hb d_Search_finderFloor_36 ?_
  refine lv_topi (fun v36 e36 => ?_)
  have h36 : v36.toInt = 5 * M := by rw [e36]; exact ti_mul (ti_k (by decide)) hmd (by omega) (by omega)
  refine lv_iconst (v := 5) hx hb d_Search_finderFloor_37 (by decide) ?_
  refine lv_iload_n hx hb d_Search_finderFloor_38 rfl (lv_at hl 1 rfl) ?_
  refine lv_imul hx hb d_Search_finderFloor_39 ?_
  refine lv_topi (fun v39 e39 => ?_)
  have h39 : v39.toInt = 5 * M := by rw [e39]; exact ti_mul (ti_k (by decide)) hmd (by omega) (by omega)
  have hPc := hP.sub (ws' := [(hq, .inr (3, [.ref hp, .ref hst, .int lim, .int thd, .int md, .int sz0, .int tm, .int tx, .int ty, .int sx, .int sy, .ref hqf, .ref hkn, .int stp])), (hp, .inr (0, [.int pw, .int ph, .ref hw, .ref hs, .int psr])), (hs, .inl (kS, 263169, .inl fs))]) [0, 1, 2] rfl
  have hKc := hK.sub (tys' := [(kS, .int)]) [0] rfl
  refine va_calli (va_runV (As := [.int v30, .int v33, .int v36, .int v39]) (rest := []) ⟨hx, hb, hml, hown, hts⟩ (c_leastDark l dC dI hq hp hw hs hst hqf hkn kS pw ph psr lim thd md sz0 tm tx ty sx sy stp fs Wd Ht M S TX TY SX SY D hpw hph hmd hsz0 htx hty hsx hsy hB hsum v30 v33 v36 v39 (x + M) (y + M) (5 * M) (5 * M) h30 h33 h36 h39 (by omega) (by omega) (by omega) (by omega) (by omega) (by omega)) (aw_V 4 hts wd_423 wd_425 ws_11 wd_2 wd_426 rfl rfl (by decide +kernel) ⟨Nat.le_of_ble_eq_true rfl, Nat.le_of_ble_eq_true rfl⟩) ⟨ro_blind, va_recv hKc hPc (ci := 3) (q0 := 0) rfl rfl, ro_pre hPc hKc⟩ rfl rfl hl.1 rfl (lv_room (Nat.le_of_ble_eq_true rfl)) d_Search_finderFloor_40 ⟨Nat.le_of_ble_eq_true rfl, Nat.le_of_ble_eq_true rfl⟩) hS (fun q _ h => h.elim) (fun q h => h.elim) (fun v40 _ t H40 locs ht hvm h40 hB hz1 hk1 hS => ?_)
  have hP := ro_keep hP hk1
  clear hPc hKc ht hvm hB hz1 hk1
  have r40 := h40.2.2
  refine lv_istore (lv' := [(5, .int v40), (4, .int v22), (3, .int md), (0, .ref hq), (1, .int a1), (2, .int a2)]) hx hb d_Search_finderFloor_43 hl (by decide) rfl (fun ls hl => ?_)
  refine lv_aload_n hx hb d_Search_finderFloor_45 rfl (lv_at hl 3 rfl) ?_
  refine lv_iload_n hx hb d_Search_finderFloor_46 rfl (lv_at hl 4 rfl) ?_
  refine lv_iload_n hx hb d_Search_finderFloor_47 rfl (lv_at hl 5 rfl) ?_
  refine lv_bipush (v := 7) hx hb d_Search_finderFloor_48 (by decide) ?_
  refine lv_iload_n hx hb d_Search_finderFloor_50 rfl (lv_at hl 2 rfl) ?_
  refine lv_imul hx hb d_Search_finderFloor_51 ?_
  refine lv_topi (fun v51 e51 => ?_)
  have h51 : v51.toInt = 7 * M := by rw [e51]; exact ti_mul (ti_k (by decide)) hmd (by omega) (by omega)
  refine lv_bipush (v := 7) hx hb d_Search_finderFloor_52 (by decide) ?_
  refine lv_iload_n hx hb d_Search_finderFloor_54 rfl (lv_at hl 2 rfl) ?_
  refine lv_imul hx hb d_Search_finderFloor_55 ?_
  refine lv_topi (fun v55 e55 => ?_)
  have h55 : v55.toInt = 7 * M := by rw [e55]; exact ti_mul (ti_k (by decide)) hmd (by omega) (by omega)
  have hPc := hP.sub (ws' := [(hq, .inr (3, [.ref hp, .ref hst, .int lim, .int thd, .int md, .int sz0, .int tm, .int tx, .int ty, .int sx, .int sy, .ref hqf, .ref hkn, .int stp])), (hp, .inr (0, [.int pw, .int ph, .ref hw, .ref hs, .int psr])), (hs, .inl (kS, 263169, .inl fs))]) [0, 1, 2] rfl
  have hKc := hK.sub (tys' := [(kS, .int)]) [0] rfl
  refine va_calli (va_runV (As := [.int a1, .int a2, .int v51, .int v55]) (rest := []) ⟨hx, hb, hml, hown, hts⟩ (c_mostDark l dC dI hq hp hw hs hst hqf hkn kS pw ph psr lim thd md sz0 tm tx ty sx sy stp fs Wd Ht M S TX TY SX SY D hpw hph hmd hsz0 htx hty hsx hsy hB hsum a1 a2 v51 v55 x y (7 * M) (7 * M) g1 g2 h51 h55 (by omega) (by omega) (by omega) (by omega) (by omega) (by omega)) (aw_V 4 hts wd_410 wd_412 ws_9 wd_2 wd_413 rfl rfl (by decide +kernel) ⟨Nat.le_of_ble_eq_true rfl, Nat.le_of_ble_eq_true rfl⟩) ⟨ro_blind, va_recv hKc hPc (ci := 3) (q0 := 0) rfl rfl, ro_pre hPc hKc⟩ rfl rfl hl.1 rfl (lv_room (Nat.le_of_ble_eq_true rfl)) d_Search_finderFloor_56 ⟨Nat.le_of_ble_eq_true rfl, Nat.le_of_ble_eq_true rfl⟩) hS (fun q _ h => h.elim) (fun q h => h.elim) (fun v56 _ t H56 locs ht hvm h56 hB hz1 hk1 hS => ?_)
  have hP := ro_keep hP hk1
  clear hPc hKc ht hvm hB hz1 hk1
  have r56 := h56.2.2
  refine lv_iload hx hb d_Search_finderFloor_59 (lv_at hl 0 rfl) ?_
  refine lv_isub hx hb d_Search_finderFloor_61 ?_
  refine lv_topi (fun v61 e61 => ?_)
  have h61 : v61.toInt = v56.toInt - v40.toInt := by rw [e61]; exact ti_sub rfl rfl (by omega) (by omega)
  refine lv_istore (lv' := [(6, .int v61), (5, .int v40), (4, .int v22), (3, .int md), (0, .ref hq), (1, .int a1), (2, .int a2)]) hx hb d_Search_finderFloor_62 hl (by decide) rfl (fun ls hl => ?_)
  refine lv_bipush (v := 9) hx hb d_Search_finderFloor_64 (by decide) ?_
  refine lv_iload_n hx hb d_Search_finderFloor_66 rfl (lv_at hl 3 rfl) ?_
  refine lv_imul hx hb d_Search_finderFloor_67 ?_
  refine lv_topi (fun v67 e67 => ?_)
  have h67 : v67.toInt = 9 * M := by rw [e67]; exact ti_mul (ti_k (by decide)) hmd (by omega) (by omega)
  refine lv_iload_n hx hb d_Search_finderFloor_68 rfl (lv_at hl 3 rfl) ?_
  refine lv_imul hx hb d_Search_finderFloor_69 ?_
  refine lv_topi (fun v69 e69 => ?_)
  have h69 : v69.toInt = (9 * M) * M := by rw [e69]; exact ti_mul h67 hmd (by omega) (by omega)
  refine lv_iload hx hb d_Search_finderFloor_70 (lv_at hl 2 rfl) ?_
  refine lv_isub hx hb d_Search_finderFloor_72 ?_
  refine lv_topi (fun v72 e72 => ?_)
  have h72 : v72.toInt = ((9 * M) * M) - v22.toInt := by rw [e72]; exact ti_sub h69 rfl (by omega) (by omega)
  refine lv_iload hx hb d_Search_finderFloor_73 (lv_at hl 1 rfl) ?_
  refine lv_iload hx hb d_Search_finderFloor_75 (lv_at hl 2 rfl) ?_
  refine lv_isub hx hb d_Search_finderFloor_77 ?_
  refine lv_topi (fun v77 e77 => ?_)
  have h77 : v77.toInt = v40.toInt - v22.toInt := by rw [e77]; exact ti_sub rfl rfl (by omega) (by omega)
  refine lv_iconst (v := 0) hx hb d_Search_finderFloor_78 (by decide) ?_
  refine va_mmax hx hb (by rw [hml]; exact hl.1.symm) hown (hts _ wd_422) (hts _ wd_148) (hts _ wd_11) (hts _ wd_149) (Nat.le_of_ble_eq_true rfl) (Nat.le_of_ble_eq_true rfl) (Nat.le_of_ble_eq_true rfl) (Nat.le_of_ble_eq_true rfl) d_Search_finderFloor_79 ?_
  refine lv_topi (fun v79 e79 => ?_)
  have h79 : v79.toInt = max (v40.toInt - v22.toInt) 0 := by rw [e79]; exact ti_max h77 (ti_k (by decide))
  refine lv_iadd hx hb d_Search_finderFloor_82 ?_
  refine lv_topi (fun v82 e82 => ?_)
  have h82 : v82.toInt = (((9 * M) * M) - v22.toInt) + (max (v40.toInt - v22.toInt) 0) := by rw [e82]; exact ti_add h72 h79 (by omega) (by omega)
  refine lv_bipush (v := 24) hx hb d_Search_finderFloor_83 (by decide) ?_
  refine lv_iload_n hx hb d_Search_finderFloor_85 rfl (lv_at hl 3 rfl) ?_
  refine lv_imul hx hb d_Search_finderFloor_86 ?_
  refine lv_topi (fun v86 e86 => ?_)
  have h86 : v86.toInt = 24 * M := by rw [e86]; exact ti_mul (ti_k (by decide)) hmd (by omega) (by omega)
  refine lv_iload_n hx hb d_Search_finderFloor_87 rfl (lv_at hl 3 rfl) ?_
  refine lv_imul hx hb d_Search_finderFloor_88 ?_
  refine lv_topi (fun v88 e88 => ?_)
  have h88 : v88.toInt = (24 * M) * M := by rw [e88]; exact ti_mul h86 hmd (by omega) (by omega)
  refine lv_iload hx hb d_Search_finderFloor_89 (lv_at hl 0 rfl) ?_
  refine lv_isub hx hb d_Search_finderFloor_91 ?_
  refine lv_topi (fun v91 e91 => ?_)
  have h91 : v91.toInt = ((24 * M) * M) - (v56.toInt - v40.toInt) := by rw [e91]; exact ti_sub h88 h61 (by omega) (by omega)
  refine lv_iconst (v := 0) hx hb d_Search_finderFloor_92 (by decide) ?_
  refine va_mmax hx hb (by rw [hml]; exact hl.1.symm) hown (hts _ wd_422) (hts _ wd_148) (hts _ wd_11) (hts _ wd_149) (Nat.le_of_ble_eq_true rfl) (Nat.le_of_ble_eq_true rfl) (Nat.le_of_ble_eq_true rfl) (Nat.le_of_ble_eq_true rfl) d_Search_finderFloor_93 ?_
  refine lv_topi (fun v93 e93 => ?_)
  have h93 : v93.toInt = max (((24 * M) * M) - (v56.toInt - v40.toInt)) 0 := by rw [e93]; exact ti_max h91 (ti_k (by decide))
  refine lv_iadd hx hb d_Search_finderFloor_96 ?_
  refine lv_topi (fun v96 e96 => ?_)
  have h96 : v96.toInt = ((((9 * M) * M) - v22.toInt) + (max (v40.toInt - v22.toInt) 0)) + (max (((24 * M) * M) - (v56.toInt - v40.toInt)) 0) := by rw [e96]; exact ti_add h82 h93 (by omega) (by omega)
  have hpost : (∀ dx dy, 0 ≤ dx → dx ≤ SX → 0 ≤ dy → dy ≤ SY → v96.toInt ≤ w7 D M (x + dx) (y + dy)) ∧ -1000000 ≤ v96.toInt ∧ v96.toInt ≤ 1000000 := by
    refine ⟨fun dx dy d1 d2 d3 d4 => ?_, by omega, by omega⟩
    rw [h96]
    exact floor7 h22 h40 h56 (by omega) dx dy d1 d2 d3 d4
  exact W.iret (v := v96) hx hb hr (fun t ht hW => ⟨⟨v96, (), rfl, hpost, trivial⟩, hS.F ht⟩) hS.2.2 d_Search_finderFloor_97

set_option maxHeartbeats 4000000 in
set_option maxRecDepth 100000 in
theorem c_borderFloor (l : Launch) (dC : Nat → ClassId) (dI : Nat → Nat → Nat) (hq hp hw hs hst hqf hkn : Nat) (kS : ClassId) (pw ph psr lim thd md sz0 tm tx ty sx sy stp : Int32) (fs : Nat → Int32) (Wd Ht M S TX TY SX SY : Int) (D : Int → Int → Bool) (hpw : pw.toInt = Wd) (hph : ph.toInt = Ht) (hmd : md.toInt = M) (hsz0 : sz0.toInt = S) (htx : tx.toInt = TX) (hty : ty.toInt = TY) (hsx : sx.toInt = SX) (hsy : sy.toInt = SY) (hB : sBnd Wd Ht M S TX TY SX SY) (hsum : ∀ x y, 0 ≤ x → x ≤ Wd → 0 ≤ y → y ≤ Ht → (fs (y * 513 + x).toNat).toInt = cI D 0 0 x y) (a1 : Int32) (k : Int) (g1 : a1.toInt = k) (hk0 : 0 ≤ k) (hk3 : k ≤ 3) (a2 a3 : Int32) (x y : Int) (g2 : a2.toInt = x) (g3 : a3.toInt = y) (b1 : 0 ≤ x) (b2 : 0 ≤ y) (b3 : (k = 1 ∨ k = 2) → M ≤ x) (b4 : 2 ≤ k → M ≤ y) (b5 : x + 7 * M + SX ≤ Wd) (b6 : y + 7 * M + SY ≤ Ht) (b7 : ¬ (k = 1 ∨ k = 2) → x + 8 * M + SX ≤ Wd) (b8 : ¬ 2 ≤ k → y + 8 * M + SY ≤ Ht) : Met l y_Search_borderFloor (.code y_Search_borderFloor b_Search_borderFloor 7 (some .int) :: allw) ({ frames := 2, cells := 0, slots := 0, locals := 53 }) (va_Pc [.ref hq, .int a1, .int a2, .int a3] (ro_B (dC, dI) vwCl [(hq, .inr (3, [.ref hp, .ref hst, .int lim, .int thd, .int md, .int sz0, .int tm, .int tx, .int ty, .int sx, .int sy, .ref hqf, .ref hkn, .int stp])), (hp, .inr (0, [.int pw, .int ph, .ref hw, .ref hs, .int psr])), (hs, .inl (kS, 263169, .inl fs))] [(kS, .int)])) (va_Qi (fun (r : Int32) (_ : Unit) => (∀ dx dy, 0 ≤ dx → dx ≤ SX → 0 ≤ dy → dy ≤ SY → r.toInt ≤ bd D M k (x + dx) (y + dy)) ∧ -1000000 ≤ r.toInt ∧ r.toInt ≤ 1000000) (fun _ _ => True) (fun _ => False)) 0 0 (fun _ => False) := by
  refine Met.ofW (cc := b_Search_borderFloor) (maxL := 7) (ret := (some .int)) (by decide) rfl ?_
  intro p e s m args below meth c s₁ B hml hv
  obtain ⟨rfl, hP, hK⟩ := hv
  have hx := B.exec
  have hb := B.bytes
  have hr := B.returns
  have hts : ∀ w ∈ allw, w.before _ s = true := fun w h => atoms_spec (ws := .code y_Search_borderFloor b_Search_borderFloor 7 (some .int) :: allw) B.pre w (List.mem_cons_of_mem _ h)
  have hown : s.vm.findClass R_Search = some m.cls := findClass_of_methodNamed B.named
  have hlocks := B.notSynchronized
  have hS : va_S (fun _ => False) s.heap s.heap [] := va_S.rf
  have hP : va_P (dC, dI) vwCl [(hq, .inr (3, [.ref hp, .ref hst, .int lim, .int thd, .int md, .int sz0, .int tm, .int tx, .int ty, .int sx, .int sy, .ref hqf, .ref hkn, .int stp])), (hp, .inr (0, [.int pw, .int ph, .ref hw, .ref hs, .int psr])), (hs, .inl (kS, 263169, .inl fs))] s.heap := hP
  have hl := lv_entry ([.ref hq, .int a1, .int a2, .int a3]) (n := 7) (Nat.le_of_ble_eq_true rfl)
  rw [lg_entry_eq]
  generalize (lg_sl ([.ref hq, .int a1, .int a2, .int a3]) ++ List.replicate (7 - (lg_sl ([.ref hq, .int a1, .int a2, .int a3])).length) Slot.unset).toArray = ls at hl ⊢
  have hl : lv_has ls 7 [(0, .ref hq), (1, .int a1), (2, .int a2), (3, .int a3)] := hl
  obtain ⟨hW1, hW2, hH1, hH2, hM1, hM2, hS1, hS2, hX1, hX2, hY1, hY2, hx1, hx2, hy1, hy2⟩ := id hB
  have m2 := mul_b (a := M) (b := M) (n := 16) (by omega) (by omega) (by omega) (by omega)
  have m1 := Int.mul_le_mul (show 1 ≤ M by omega) (show 1 ≤ M by omega) (by omega) (by omega)
  have f7 : M * (7 * M) = 7 * (M * M) := Int.mul_left_comm _ _ _
  have f8 : 8 * M * M = 8 * (M * M) := Int.mul_assoc _ _ _
  refine lv_aload_n hx hb d_Search_borderFloor_0 rfl (lv_at hl 0 rfl) ?_
  refine va_get (D := (dC, dI)) (ci := 3) (v := .int md) (C := R_Search) (T := T_Search) (N := 14) hx hb hts i_Search hown hK hP 0 rfl rfl 4 (by decide) (hts _ wd_85) (fun _ h9 => h9) rfl d_Search_borderFloor_1 ?_
  refine lv_istore (lv' := [(4, .int md), (0, .ref hq), (1, .int a1), (2, .int a2), (3, .int a3)]) hx hb d_Search_borderFloor_4 hl (by decide) rfl (fun ls hl => ?_)
  refine lv_iload_n hx hb d_Search_borderFloor_6 rfl (lv_at hl 2 rfl) ?_
  have hPc := hP.sub (ws' := []) [] rfl
  have hKc := hK.sub (tys' := []) [] rfl
  refine va_calli (va_runS (As := [.int a1]) (rest := []) ⟨hx, hb, hml, hown, hts⟩ (c_isRight l dC dI a1 k g1) (aw_S 1 hts wd_439 wd_440 wd_2 wd_441 rfl rfl (by decide +kernel) ⟨Nat.le_of_ble_eq_true rfl, Nat.le_of_ble_eq_true rfl⟩) ⟨ro_blind, ro_pre hPc hKc⟩ rfl rfl hl.1 rfl (lv_room (Nat.le_of_ble_eq_true rfl)) d_Search_borderFloor_7 ⟨Nat.le_of_ble_eq_true rfl, Nat.le_of_ble_eq_true rfl⟩) hS (fun q _ h => h.elim) (fun q h => h.elim) (fun v7 _ t H7 locs ht hvm h7 hB hz1 hk1 hS => ?_)
  have hP := ro_keep hP hk1
  clear hPc hKc ht hvm hB hz1 hk1
  refine w_cut (I := fun H' locs' g' => ∃ (bx : Int32) (zbx : Int) (ls : Array Slot), g' = F0 m 27 ls [.int bx] ∧ lv_has ls 7 [(0, .ref hq), (1, .int a1), (2, .int a2), (3, .int a3), (4, .int md)] ∧ bx.toInt = zbx ∧ (zbx = if k = 1 ∨ k = 2 then x - M else x + 7 * M) ∧ va_P (dC, dI) vwCl [(hq, .inr (3, [.ref hp, .ref hst, .int lim, .int thd, .int md, .int sz0, .int tm, .int tx, .int ty, .int sx, .int sy, .ref hqf, .ref hkn, .int stp])), (hp, .inr (0, [.int pw, .int ph, .ref hw, .ref hs, .int psr])), (hs, .inl (kS, 263169, .inl fs))] H' ∧ va_S (fun _ => False) s.heap H' locs') ?_ ?_
  · skip
    intro H27 locs g' hI
    obtain ⟨bx, zbx, ls, rfl, hl, hbx, ibx, hP, hS⟩ := hI
    refine lv_istore (lv' := [(5, .int bx), (0, .ref hq), (1, .int a1), (2, .int a2), (3, .int a3), (4, .int md)]) hx hb d_Search_borderFloor_27 hl (by decide) rfl (fun ls hl => ?_)
    refine lv_iload_n hx hb d_Search_borderFloor_29 rfl (lv_at hl 2 rfl) ?_
    have hPc := hP.sub (ws' := []) [] rfl
    have hKc := hK.sub (tys' := []) [] rfl
    refine va_calli (va_runS (As := [.int a1]) (rest := []) ⟨hx, hb, hml, hown, hts⟩ (c_isLow l dC dI a1 k g1) (aw_S 1 hts wd_442 wd_443 wd_2 wd_444 rfl rfl (by decide +kernel) ⟨Nat.le_of_ble_eq_true rfl, Nat.le_of_ble_eq_true rfl⟩) ⟨ro_blind, ro_pre hPc hKc⟩ rfl rfl hl.1 rfl (lv_room (Nat.le_of_ble_eq_true rfl)) d_Search_borderFloor_30 ⟨Nat.le_of_ble_eq_true rfl, Nat.le_of_ble_eq_true rfl⟩) hS (fun q _ h => h.elim) (fun q h => h.elim) (fun v30 _ t H30 locs ht hvm h30 hB hz1 hk1 hS => ?_)
    have hP := ro_keep hP hk1
    clear hPc hKc ht hvm hB hz1 hk1
    refine w_cut (I := fun H' locs' g' => ∃ (byy : Int32) (zbyy : Int) (ls : Array Slot), g' = F0 m 50 ls [.int byy] ∧ lv_has ls 7 [(0, .ref hq), (1, .int a1), (2, .int a2), (3, .int a3), (4, .int md), (5, .int bx)] ∧ byy.toInt = zbyy ∧ (zbyy = if 2 ≤ k then y - M else y + 7 * M) ∧ va_P (dC, dI) vwCl [(hq, .inr (3, [.ref hp, .ref hst, .int lim, .int thd, .int md, .int sz0, .int tm, .int tx, .int ty, .int sx, .int sy, .ref hqf, .ref hkn, .int stp])), (hp, .inr (0, [.int pw, .int ph, .ref hw, .ref hs, .int psr])), (hs, .inl (kS, 263169, .inl fs))] H' ∧ va_S (fun _ => False) s.heap H' locs') ?_ ?_
    · skip
      intro H50 locs g' hI
      obtain ⟨byy, zbyy, ls, rfl, hl, hbyy, iby, hP, hS⟩ := hI
      refine lv_istore (lv' := [(6, .int byy), (0, .ref hq), (1, .int a1), (2, .int a2), (3, .int a3), (4, .int md), (5, .int bx)]) hx hb d_Search_borderFloor_50 hl (by decide) rfl (fun ls hl => ?_)
      have ibx2 : zbx ≤ x + 7 * M ∧ 0 ≤ zbx ∧ zbx + M + SX ≤ Wd := by
        by_cases q : k = 1 ∨ k = 2
        · rw [if_pos q] at ibx; have := b3 q; omega
        · rw [if_neg q] at ibx; have := b7 q; omega
      have iby2 : zbyy ≤ y + 7 * M ∧ 0 ≤ zbyy ∧ zbyy + M + SY ≤ Ht := by
        by_cases q : 2 ≤ k
        · rw [if_pos q] at iby; have := b4 q; omega
        · rw [if_neg q] at iby; have := b8 q; omega
      refine lv_aload_n hx hb d_Search_borderFloor_52 rfl (lv_at hl 1 rfl) ?_
      refine lv_iload hx hb d_Search_borderFloor_53 (lv_at hl 6 rfl) ?_
      refine lv_iload_n hx hb d_Search_borderFloor_55 rfl (lv_at hl 4 rfl) ?_
      refine lv_iload hx hb d_Search_borderFloor_56 (lv_at hl 5 rfl) ?_
      refine lv_bipush (v := 7) hx hb d_Search_borderFloor_58 (by decide) ?_
      refine lv_iload hx hb d_Search_borderFloor_60 (lv_at hl 5 rfl) ?_
      refine lv_imul hx hb d_Search_borderFloor_62 ?_
      refine lv_topi (fun v62 e62 => ?_)
      have h62 : v62.toInt = 7 * M := by rw [e62]; exact ti_mul (ti_k (by decide)) hmd (by omega) (by omega)
      have hPc := hP.sub (ws' := [(hq, .inr (3, [.ref hp, .ref hst, .int lim, .int thd, .int md, .int sz0, .int tm, .int tx, .int ty, .int sx, .int sy, .ref hqf, .ref hkn, .int stp])), (hp, .inr (0, [.int pw, .int ph, .ref hw, .ref hs, .int psr])), (hs, .inl (kS, 263169, .inl fs))]) [0, 1, 2] rfl
      have hKc := hK.sub (tys' := [(kS, .int)]) [0] rfl
      refine va_calli (va_runV (As := [.int bx, .int a3, .int md, .int v62]) (rest := []) ⟨hx, hb, hml, hown, hts⟩ (c_leastDark l dC dI hq hp hw hs hst hqf hkn kS pw ph psr lim thd md sz0 tm tx ty sx sy stp fs Wd Ht M S TX TY SX SY D hpw hph hmd hsz0 htx hty hsx hsy hB hsum bx a3 md v62 zbx y M (7 * M) hbx g3 hmd h62 (by omega) (by omega) (by omega) (by omega) (by omega) (by omega)) (aw_V 4 hts wd_423 wd_425 ws_11 wd_2 wd_426 rfl rfl (by decide +kernel) ⟨Nat.le_of_ble_eq_true rfl, Nat.le_of_ble_eq_true rfl⟩) ⟨ro_blind, va_recv hKc hPc (ci := 3) (q0 := 0) rfl rfl, ro_pre hPc hKc⟩ rfl rfl hl.1 rfl (lv_room (Nat.le_of_ble_eq_true rfl)) d_Search_borderFloor_63 ⟨Nat.le_of_ble_eq_true rfl, Nat.le_of_ble_eq_true rfl⟩) hS (fun q _ h => h.elim) (fun q h => h.elim) (fun v63 _ t H63 locs ht hvm h63 hB hz1 hk1 hS => ?_)
      have hP := ro_keep hP hk1
      clear hPc hKc ht hvm hB hz1 hk1
      have r63 := h63.2.2
      refine lv_aload_n hx hb d_Search_borderFloor_66 rfl (lv_at hl 1 rfl) ?_
      refine lv_iload_n hx hb d_Search_borderFloor_67 rfl (lv_at hl 3 rfl) ?_
      refine lv_iload hx hb d_Search_borderFloor_68 (lv_at hl 6 rfl) ?_
      refine va_mmin hx hb (by rw [hml]; exact hl.1.symm) hown (hts _ wd_396) (hts _ wd_151) (hts _ wd_11) (hts _ wd_152) (Nat.le_of_ble_eq_true rfl) (Nat.le_of_ble_eq_true rfl) (Nat.le_of_ble_eq_true rfl) (Nat.le_of_ble_eq_true rfl) d_Search_borderFloor_70 ?_
      refine lv_topi (fun v70 e70 => ?_)
      have h70 : v70.toInt = min x zbx := by rw [e70]; exact ti_min g2 hbx
      obtain ⟨MX, kMX⟩ : ∃ c : Int, c = (min x zbx) := ⟨_, rfl⟩
      have h70 : v70.toInt = MX := by rw [h70, kMX]
      have iMX : MX = if k = 1 ∨ k = 2 then x - M else x := by
        by_cases q : k = 1 ∨ k = 2
        · rw [if_pos q] at ibx ⊢; omega
        · rw [if_neg q] at ibx ⊢; omega
      have iMX2 : 0 ≤ MX ∧ MX + 8 * M + SX ≤ Wd := by
        by_cases q : k = 1 ∨ k = 2
        · rw [if_pos q] at iMX; have := b3 q; omega
        · rw [if_neg q] at iMX; have := b7 q; omega
      refine lv_iload hx hb d_Search_borderFloor_73 (lv_at hl 0 rfl) ?_
      refine lv_bipush (v := 8) hx hb d_Search_borderFloor_75 (by decide) ?_
      refine lv_iload hx hb d_Search_borderFloor_77 (lv_at hl 5 rfl) ?_
      refine lv_imul hx hb d_Search_borderFloor_79 ?_
      refine lv_topi (fun v79 e79 => ?_)
      have h79 : v79.toInt = 8 * M := by rw [e79]; exact ti_mul (ti_k (by decide)) hmd (by omega) (by omega)
      refine lv_iload hx hb d_Search_borderFloor_80 (lv_at hl 5 rfl) ?_
      have hPc := hP.sub (ws' := [(hq, .inr (3, [.ref hp, .ref hst, .int lim, .int thd, .int md, .int sz0, .int tm, .int tx, .int ty, .int sx, .int sy, .ref hqf, .ref hkn, .int stp])), (hp, .inr (0, [.int pw, .int ph, .ref hw, .ref hs, .int psr])), (hs, .inl (kS, 263169, .inl fs))]) [0, 1, 2] rfl
      have hKc := hK.sub (tys' := [(kS, .int)]) [0] rfl
      refine va_calli (va_runV (As := [.int v70, .int byy, .int v79, .int md]) (rest := [.int v63]) ⟨hx, hb, hml, hown, hts⟩ (c_leastDark l dC dI hq hp hw hs hst hqf hkn kS pw ph psr lim thd md sz0 tm tx ty sx sy stp fs Wd Ht M S TX TY SX SY D hpw hph hmd hsz0 htx hty hsx hsy hB hsum v70 byy v79 md MX zbyy (8 * M) M h70 hbyy h79 hmd (by omega) (by omega) (by omega) (by omega) (by omega) (by omega)) (aw_V 4 hts wd_423 wd_425 ws_11 wd_2 wd_426 rfl rfl (by decide +kernel) ⟨Nat.le_of_ble_eq_true rfl, Nat.le_of_ble_eq_true rfl⟩) ⟨ro_blind, va_recv hKc hPc (ci := 3) (q0 := 0) rfl rfl, ro_pre hPc hKc⟩ rfl rfl hl.1 rfl (lv_room (Nat.le_of_ble_eq_true rfl)) d_Search_borderFloor_82 ⟨Nat.le_of_ble_eq_true rfl, Nat.le_of_ble_eq_true rfl⟩) hS (fun q _ h => h.elim) (fun q h => h.elim) (fun v82 _ t H82 locs ht hvm h82 hB hz1 hk1 hS => ?_)
      have hP := ro_keep hP hk1
      clear hPc hKc ht hvm hB hz1 hk1
      have r82 := h82.2.2
      refine lv_iadd hx hb d_Search_borderFloor_85 ?_
      refine lv_topi (fun v85 e85 => ?_)
      have h85 : v85.toInt = v63.toInt + v82.toInt := by rw [e85]; exact ti_add rfl rfl (by omega) (by omega)
      have hpost : (∀ dx dy, 0 ≤ dx → dx ≤ SX → 0 ≤ dy → dy ≤ SY → v85.toInt ≤ bd D M k (x + dx) (y + dy)) ∧ -1000000 ≤ v85.toInt ∧ v85.toInt ≤ 1000000 := by
        refine ⟨fun dx dy d1 d2 d3 d4 => ?_, by omega, by omega⟩
        rw [h85]
        exact bd_low h63 h82 ibx iMX iby dx dy d1 d2 d3 d4
      exact W.iret (v := v85) hx hb hr (fun t ht hW => ⟨⟨v85, (), rfl, hpost, trivial⟩, hS.F ht⟩) hS.2.2 d_Search_borderFloor_86
    · skip
      intro hj50
      refine lv_if_eq (tgt := 43) hx hb d_Search_borderFloor_33 (by decide) (fun c33 => ?_) (fun c33 => ?_)
      · skip
        have c33 : ¬ (2 ≤ k) := bi_z h30 c33
        refine lv_iload_n hx hb d_Search_borderFloor_43 rfl (lv_at hl 4 rfl) ?_
        refine lv_bipush (v := 7) hx hb d_Search_borderFloor_44 (by decide) ?_
        refine lv_iload hx hb d_Search_borderFloor_46 (lv_at hl 5 rfl) ?_
        refine lv_imul hx hb d_Search_borderFloor_48 ?_
        refine lv_topi (fun v48 e48 => ?_)
        have h48 : v48.toInt = 7 * M := by rw [e48]; exact ti_mul (ti_k (by decide)) hmd (by omega) (by omega)
        refine lv_iadd hx hb d_Search_borderFloor_49 ?_
        refine lv_topi (fun v49 e49 => ?_)
        have h49 : v49.toInt = y + (7 * M) := by rw [e49]; exact ti_add g3 h48 (by omega) (by omega)
        exact hj50 _ _ _ ⟨v49, (y + (7 * M)), ls, rfl, lv_sub hl [1, 2, 3, 4, 5, 0] rfl, h49, by rw [if_neg c33], hP, hS⟩
      · skip
        have c33 : 2 ≤ k := bi_nz h30 c33
        refine lv_iload_n hx hb d_Search_borderFloor_36 rfl (lv_at hl 4 rfl) ?_
        refine lv_iload hx hb d_Search_borderFloor_37 (lv_at hl 5 rfl) ?_
        refine lv_isub hx hb d_Search_borderFloor_39 ?_
        refine lv_topi (fun v39 e39 => ?_)
        have h39 : v39.toInt = y - M := by rw [e39]; exact ti_sub g3 hmd (by omega) (by omega)
        refine lv_goto (tgt := 50) hx hb d_Search_borderFloor_40 (by decide) ?_
        exact hj50 _ _ _ ⟨v39, (y - M), ls, rfl, lv_sub hl [1, 2, 3, 4, 5, 0] rfl, h39, by rw [if_pos c33], hP, hS⟩
  · skip
    intro hj27
    refine lv_if_eq (tgt := 20) hx hb d_Search_borderFloor_10 (by decide) (fun c10 => ?_) (fun c10 => ?_)
    · skip
      have c10 : ¬ (k = 1 ∨ k = 2) := bi_z h7 c10
      refine lv_iload_n hx hb d_Search_borderFloor_20 rfl (lv_at hl 3 rfl) ?_
      refine lv_bipush (v := 7) hx hb d_Search_borderFloor_21 (by decide) ?_
      refine lv_iload hx hb d_Search_borderFloor_23 (lv_at hl 0 rfl) ?_
      refine lv_imul hx hb d_Search_borderFloor_25 ?_
      refine lv_topi (fun v25 e25 => ?_)
      have h25 : v25.toInt = 7 * M := by rw [e25]; exact ti_mul (ti_k (by decide)) hmd (by omega) (by omega)
      refine lv_iadd hx hb d_Search_borderFloor_26 ?_
      refine lv_topi (fun v26 e26 => ?_)
      have h26 : v26.toInt = x + (7 * M) := by rw [e26]; exact ti_add g2 h25 (by omega) (by omega)
      exact hj27 _ _ _ ⟨v26, (x + (7 * M)), ls, rfl, lv_sub hl [1, 2, 3, 4, 0] rfl, h26, by rw [if_neg c10], hP, hS⟩
    · skip
      have c10 : k = 1 ∨ k = 2 := bi_nz h7 c10
      refine lv_iload_n hx hb d_Search_borderFloor_13 rfl (lv_at hl 3 rfl) ?_
      refine lv_iload hx hb d_Search_borderFloor_14 (lv_at hl 0 rfl) ?_
      refine lv_isub hx hb d_Search_borderFloor_16 ?_
      refine lv_topi (fun v16 e16 => ?_)
      have h16 : v16.toInt = x - M := by rw [e16]; exact ti_sub g2 hmd (by omega) (by omega)
      refine lv_goto (tgt := 27) hx hb d_Search_borderFloor_17 (by decide) ?_
      exact hj27 _ _ _ ⟨v16, (x - M), ls, rfl, lv_sub hl [1, 2, 3, 4, 0] rfl, h16, by rw [if_pos c10], hP, hS⟩
end
section
set_option maxHeartbeats 4000000 in
set_option maxRecDepth 100000 in
theorem c_leftOf (l : Launch) (dC : Nat → ClassId) (dI : Nat → Nat → Nat) (a0 : Int32) (K : Int) (g0 : a0.toInt = K) (hK : 0 ≤ K) : Met l y_Place_leftOf (.code y_Place_leftOf b_Place_leftOf 1 (some .int) :: allw) ({ frames := 0, cells := 0, slots := 0, locals := 0 }) (va_Pc [.int a0] (ro_B (dC, dI) vwCl [] [])) (va_Qi (fun (r : Int32) (_ : Unit) => r.toInt = K / 8192 % 512) (fun _ _ => True) (fun _ => False)) 0 0 (fun _ => False) := by
  refine Met.ofW (cc := b_Place_leftOf) (maxL := 1) (ret := (some .int)) (by decide) rfl ?_
  intro p e s m args below meth c s₁ B hml hv
  obtain ⟨rfl, hP, hK⟩ := hv
  have hx := B.exec
  have hb := B.bytes
  have hr := B.returns
  have hts : ∀ w ∈ allw, w.before _ s = true := fun w h => atoms_spec (ws := .code y_Place_leftOf b_Place_leftOf 1 (some .int) :: allw) B.pre w (List.mem_cons_of_mem _ h)
  have hown : s.vm.findClass R_Place = some m.cls := findClass_of_methodNamed B.named
  have hlocks := B.notSynchronized
  have hS : va_S (fun _ => False) s.heap s.heap [] := va_S.rf
  have hP : va_P (dC, dI) vwCl [] s.heap := hP
  have hl := lv_entry ([.int a0]) (n := 1) (Nat.le_of_ble_eq_true rfl)
  rw [lg_entry_eq]
  generalize (lg_sl ([.int a0]) ++ List.replicate (1 - (lg_sl ([.int a0])).length) Slot.unset).toArray = ls at hl ⊢
  have hl : lv_has ls 1 [(0, .int a0)] := hl
  refine lv_iload_n hx hb d_Place_leftOf_0 rfl (lv_at hl 0 rfl) ?_
  refine lv_bipush (v := 13) hx hb d_Place_leftOf_1 (by decide) ?_
  refine lv_ishr hx hb d_Place_leftOf_3 ?_
  refine lv_topi (fun v3 e3 => ?_)
  have h3 : v3.toInt = K / 8192 := by rw [e3]; exact ti_shk 13 8192 (by decide) (by decide) g0
  refine lv_sipush (v := 511) hx hb d_Place_leftOf_4 (by decide) ?_
  refine lv_iand hx hb d_Place_leftOf_7 ?_
  refine lv_topi (fun v7 e7 => ?_)
  have h7 : v7.toInt = K / 8192 % 512 := by rw [e7]; exact ti_andk 9 512 (by decide) h3 (by omega) (by decide) (by decide)
  have hpost : v7.toInt = K / 8192 % 512 := by
    exact h7
  exact W.iret (v := v7) hx hb hr (fun t ht hW => ⟨⟨v7, (), rfl, hpost, trivial⟩, hS.F ht⟩) hS.2.2 d_Place_leftOf_8

set_option maxHeartbeats 4000000 in
set_option maxRecDepth 100000 in
theorem c_topOf (l : Launch) (dC : Nat → ClassId) (dI : Nat → Nat → Nat) (a0 : Int32) (K : Int) (g0 : a0.toInt = K) (hK : 0 ≤ K) : Met l y_Place_topOf (.code y_Place_topOf b_Place_topOf 1 (some .int) :: allw) ({ frames := 0, cells := 0, slots := 0, locals := 0 }) (va_Pc [.int a0] (ro_B (dC, dI) vwCl [] [])) (va_Qi (fun (r : Int32) (_ : Unit) => r.toInt = K / 4194304 % 512) (fun _ _ => True) (fun _ => False)) 0 0 (fun _ => False) := by
  refine Met.ofW (cc := b_Place_topOf) (maxL := 1) (ret := (some .int)) (by decide) rfl ?_
  intro p e s m args below meth c s₁ B hml hv
  obtain ⟨rfl, hP, hK⟩ := hv
  have hx := B.exec
  have hb := B.bytes
  have hr := B.returns
  have hts : ∀ w ∈ allw, w.before _ s = true := fun w h => atoms_spec (ws := .code y_Place_topOf b_Place_topOf 1 (some .int) :: allw) B.pre w (List.mem_cons_of_mem _ h)
  have hown : s.vm.findClass R_Place = some m.cls := findClass_of_methodNamed B.named
  have hlocks := B.notSynchronized
  have hS : va_S (fun _ => False) s.heap s.heap [] := va_S.rf
  have hP : va_P (dC, dI) vwCl [] s.heap := hP
  have hl := lv_entry ([.int a0]) (n := 1) (Nat.le_of_ble_eq_true rfl)
  rw [lg_entry_eq]
  generalize (lg_sl ([.int a0]) ++ List.replicate (1 - (lg_sl ([.int a0])).length) Slot.unset).toArray = ls at hl ⊢
  have hl : lv_has ls 1 [(0, .int a0)] := hl
  refine lv_iload_n hx hb d_Place_topOf_0 rfl (lv_at hl 0 rfl) ?_
  refine lv_bipush (v := 22) hx hb d_Place_topOf_1 (by decide) ?_
  refine lv_ishr hx hb d_Place_topOf_3 ?_
  refine lv_topi (fun v3 e3 => ?_)
  have h3 : v3.toInt = K / 4194304 := by rw [e3]; exact ti_shk 22 4194304 (by decide) (by decide) g0
  refine lv_sipush (v := 511) hx hb d_Place_topOf_4 (by decide) ?_
  refine lv_iand hx hb d_Place_topOf_7 ?_
  refine lv_topi (fun v7 e7 => ?_)
  have h7 : v7.toInt = K / 4194304 % 512 := by rw [e7]; exact ti_andk 9 512 (by decide) h3 (by omega) (by decide) (by decide)
  have hpost : v7.toInt = K / 4194304 % 512 := by
    exact h7
  exact W.iret (v := v7) hx hb hr (fun t ht hW => ⟨⟨v7, (), rfl, hpost, trivial⟩, hS.F ht⟩) hS.2.2 d_Place_topOf_8

set_option maxHeartbeats 4000000 in
set_option maxRecDepth 100000 in
theorem c_moduleOf (l : Launch) (dC : Nat → ClassId) (dI : Nat → Nat → Nat) (a0 : Int32) (K : Int) (g0 : a0.toInt = K) (hK : 0 ≤ K) : Met l y_Place_moduleOf (.code y_Place_moduleOf b_Place_moduleOf 1 (some .int) :: allw) ({ frames := 0, cells := 0, slots := 0, locals := 0 }) (va_Pc [.int a0] (ro_B (dC, dI) vwCl [] [])) (va_Qi (fun (r : Int32) (_ : Unit) => r.toInt = K / 256 % 32) (fun _ _ => True) (fun _ => False)) 0 0 (fun _ => False) := by
  refine Met.ofW (cc := b_Place_moduleOf) (maxL := 1) (ret := (some .int)) (by decide) rfl ?_
  intro p e s m args below meth c s₁ B hml hv
  obtain ⟨rfl, hP, hK⟩ := hv
  have hx := B.exec
  have hb := B.bytes
  have hr := B.returns
  have hts : ∀ w ∈ allw, w.before _ s = true := fun w h => atoms_spec (ws := .code y_Place_moduleOf b_Place_moduleOf 1 (some .int) :: allw) B.pre w (List.mem_cons_of_mem _ h)
  have hown : s.vm.findClass R_Place = some m.cls := findClass_of_methodNamed B.named
  have hlocks := B.notSynchronized
  have hS : va_S (fun _ => False) s.heap s.heap [] := va_S.rf
  have hP : va_P (dC, dI) vwCl [] s.heap := hP
  have hl := lv_entry ([.int a0]) (n := 1) (Nat.le_of_ble_eq_true rfl)
  rw [lg_entry_eq]
  generalize (lg_sl ([.int a0]) ++ List.replicate (1 - (lg_sl ([.int a0])).length) Slot.unset).toArray = ls at hl ⊢
  have hl : lv_has ls 1 [(0, .int a0)] := hl
  refine lv_iload_n hx hb d_Place_moduleOf_0 rfl (lv_at hl 0 rfl) ?_
  refine lv_bipush (v := 8) hx hb d_Place_moduleOf_1 (by decide) ?_
  refine lv_ishr hx hb d_Place_moduleOf_3 ?_
  refine lv_topi (fun v3 e3 => ?_)
  have h3 : v3.toInt = K / 256 := by rw [e3]; exact ti_shk 8 256 (by decide) (by decide) g0
  refine lv_bipush (v := 31) hx hb d_Place_moduleOf_4 (by decide) ?_
  refine lv_iand hx hb d_Place_moduleOf_6 ?_
  refine lv_topi (fun v6 e6 => ?_)
  have h6 : v6.toInt = K / 256 % 32 := by rw [e6]; exact ti_andk 5 32 (by decide) h3 (by omega) (by decide) (by decide)
  have hpost : v6.toInt = K / 256 % 32 := by
    exact h6
  exact W.iret (v := v6) hx hb hr (fun t ht hW => ⟨⟨v6, (), rfl, hpost, trivial⟩, hS.F ht⟩) hS.2.2 d_Place_moduleOf_7

set_option maxHeartbeats 4000000 in
set_option maxRecDepth 100000 in
theorem c_versionOf (l : Launch) (dC : Nat → ClassId) (dI : Nat → Nat → Nat) (a0 : Int32) (K : Int) (g0 : a0.toInt = K) (hK : 0 ≤ K) : Met l y_Place_versionOf (.code y_Place_versionOf b_Place_versionOf 1 (some .int) :: allw) ({ frames := 0, cells := 0, slots := 0, locals := 0 }) (va_Pc [.int a0] (ro_B (dC, dI) vwCl [] [])) (va_Qi (fun (r : Int32) (_ : Unit) => r.toInt = K / 4 % 64) (fun _ _ => True) (fun _ => False)) 0 0 (fun _ => False) := by
  refine Met.ofW (cc := b_Place_versionOf) (maxL := 1) (ret := (some .int)) (by decide) rfl ?_
  intro p e s m args below meth c s₁ B hml hv
  obtain ⟨rfl, hP, hK⟩ := hv
  have hx := B.exec
  have hb := B.bytes
  have hr := B.returns
  have hts : ∀ w ∈ allw, w.before _ s = true := fun w h => atoms_spec (ws := .code y_Place_versionOf b_Place_versionOf 1 (some .int) :: allw) B.pre w (List.mem_cons_of_mem _ h)
  have hown : s.vm.findClass R_Place = some m.cls := findClass_of_methodNamed B.named
  have hlocks := B.notSynchronized
  have hS : va_S (fun _ => False) s.heap s.heap [] := va_S.rf
  have hP : va_P (dC, dI) vwCl [] s.heap := hP
  have hl := lv_entry ([.int a0]) (n := 1) (Nat.le_of_ble_eq_true rfl)
  rw [lg_entry_eq]
  generalize (lg_sl ([.int a0]) ++ List.replicate (1 - (lg_sl ([.int a0])).length) Slot.unset).toArray = ls at hl ⊢
  have hl : lv_has ls 1 [(0, .int a0)] := hl
  refine lv_iload_n hx hb d_Place_versionOf_0 rfl (lv_at hl 0 rfl) ?_
  refine lv_iconst (v := 2) hx hb d_Place_versionOf_1 (by decide) ?_
  refine lv_ishr hx hb d_Place_versionOf_2 ?_
  refine lv_topi (fun v2 e2 => ?_)
  have h2 : v2.toInt = K / 4 := by rw [e2]; exact ti_shk 2 4 (by decide) (by decide) g0
  refine lv_bipush (v := 63) hx hb d_Place_versionOf_3 (by decide) ?_
  refine lv_iand hx hb d_Place_versionOf_5 ?_
  refine lv_topi (fun v5 e5 => ?_)
  have h5 : v5.toInt = K / 4 % 64 := by rw [e5]; exact ti_andk 6 64 (by decide) h2 (by omega) (by decide) (by decide)
  have hpost : v5.toInt = K / 4 % 64 := by
    exact h5
  exact W.iret (v := v5) hx hb hr (fun t ht hW => ⟨⟨v5, (), rfl, hpost, trivial⟩, hS.F ht⟩) hS.2.2 d_Place_versionOf_6

set_option maxHeartbeats 4000000 in
set_option maxRecDepth 100000 in
theorem c_quarterOf (l : Launch) (dC : Nat → ClassId) (dI : Nat → Nat → Nat) (a0 : Int32) (K : Int) (g0 : a0.toInt = K) (hK : 0 ≤ K) : Met l y_Place_quarterOf (.code y_Place_quarterOf b_Place_quarterOf 1 (some .int) :: allw) ({ frames := 0, cells := 0, slots := 0, locals := 0 }) (va_Pc [.int a0] (ro_B (dC, dI) vwCl [] [])) (va_Qi (fun (r : Int32) (_ : Unit) => r.toInt = K % 4) (fun _ _ => True) (fun _ => False)) 0 0 (fun _ => False) := by
  refine Met.ofW (cc := b_Place_quarterOf) (maxL := 1) (ret := (some .int)) (by decide) rfl ?_
  intro p e s m args below meth c s₁ B hml hv
  obtain ⟨rfl, hP, hK⟩ := hv
  have hx := B.exec
  have hb := B.bytes
  have hr := B.returns
  have hts : ∀ w ∈ allw, w.before _ s = true := fun w h => atoms_spec (ws := .code y_Place_quarterOf b_Place_quarterOf 1 (some .int) :: allw) B.pre w (List.mem_cons_of_mem _ h)
  have hown : s.vm.findClass R_Place = some m.cls := findClass_of_methodNamed B.named
  have hlocks := B.notSynchronized
  have hS : va_S (fun _ => False) s.heap s.heap [] := va_S.rf
  have hP : va_P (dC, dI) vwCl [] s.heap := hP
  have hl := lv_entry ([.int a0]) (n := 1) (Nat.le_of_ble_eq_true rfl)
  rw [lg_entry_eq]
  generalize (lg_sl ([.int a0]) ++ List.replicate (1 - (lg_sl ([.int a0])).length) Slot.unset).toArray = ls at hl ⊢
  have hl : lv_has ls 1 [(0, .int a0)] := hl
  refine lv_iload_n hx hb d_Place_quarterOf_0 rfl (lv_at hl 0 rfl) ?_
  refine lv_iconst (v := 3) hx hb d_Place_quarterOf_1 (by decide) ?_
  refine lv_iand hx hb d_Place_quarterOf_2 ?_
  refine lv_topi (fun v2 e2 => ?_)
  have h2 : v2.toInt = K % 4 := by rw [e2]; exact ti_andk 2 4 (by decide) g0 (by omega) (by decide) (by decide)
  have hpost : v2.toInt = K % 4 := by
    exact h2
  exact W.iret (v := v2) hx hb hr (fun t ht hW => ⟨⟨v2, (), rfl, hpost, trivial⟩, hS.F ht⟩) hS.2.2 d_Place_quarterOf_3

set_option maxHeartbeats 4000000 in
set_option maxRecDepth 100000 in
theorem c_sizeOf (l : Launch) (dC : Nat → ClassId) (dI : Nat → Nat → Nat) (a0 : Int32) (v : Int) (g0 : a0.toInt = v) (hv0 : 0 ≤ v) (hv1 : v ≤ 1000) : Met l y_Place_sizeOf (.code y_Place_sizeOf b_Place_sizeOf 1 (some .int) :: allw) ({ frames := 0, cells := 0, slots := 0, locals := 0 }) (va_Pc [.int a0] (ro_B (dC, dI) vwCl [] [])) (va_Qi (fun (r : Int32) (_ : Unit) => r.toInt = 17 + 4 * v) (fun _ _ => True) (fun _ => False)) 0 0 (fun _ => False) := by
  refine Met.ofW (cc := b_Place_sizeOf) (maxL := 1) (ret := (some .int)) (by decide) rfl ?_
  intro p e s m args below meth c s₁ B hml hv
  obtain ⟨rfl, hP, hK⟩ := hv
  have hx := B.exec
  have hb := B.bytes
  have hr := B.returns
  have hts : ∀ w ∈ allw, w.before _ s = true := fun w h => atoms_spec (ws := .code y_Place_sizeOf b_Place_sizeOf 1 (some .int) :: allw) B.pre w (List.mem_cons_of_mem _ h)
  have hown : s.vm.findClass R_Place = some m.cls := findClass_of_methodNamed B.named
  have hlocks := B.notSynchronized
  have hS : va_S (fun _ => False) s.heap s.heap [] := va_S.rf
  have hP : va_P (dC, dI) vwCl [] s.heap := hP
  have hl := lv_entry ([.int a0]) (n := 1) (Nat.le_of_ble_eq_true rfl)
  rw [lg_entry_eq]
  generalize (lg_sl ([.int a0]) ++ List.replicate (1 - (lg_sl ([.int a0])).length) Slot.unset).toArray = ls at hl ⊢
  have hl : lv_has ls 1 [(0, .int a0)] := hl
  refine lv_bipush (v := 17) hx hb d_Place_sizeOf_0 (by decide) ?_
  refine lv_iconst (v := 4) hx hb d_Place_sizeOf_2 (by decide) ?_
  refine lv_iload_n hx hb d_Place_sizeOf_3 rfl (lv_at hl 0 rfl) ?_
  refine lv_imul hx hb d_Place_sizeOf_4 ?_
  refine lv_topi (fun v4 e4 => ?_)
  have h4 : v4.toInt = 4 * v := by rw [e4]; exact ti_mul (ti_k (by decide)) g0 (by omega) (by omega)
  refine lv_iadd hx hb d_Place_sizeOf_5 ?_
  refine lv_topi (fun v5 e5 => ?_)
  have h5 : v5.toInt = 17 + (4 * v) := by rw [e5]; exact ti_add (ti_k (by decide)) h4 (by omega) (by omega)
  have hpost : v5.toInt = 17 + 4 * v := by
    exact h5
  exact W.iret (v := v5) hx hb hr (fun t ht hW => ⟨⟨v5, (), rfl, hpost, trivial⟩, hS.F ht⟩) hS.2.2 d_Place_sizeOf_6

set_option maxHeartbeats 4000000 in
set_option maxRecDepth 100000 in
theorem c_keyOf (l : Launch) (dC : Nat → ClassId) (dI : Nat → Nat → Nat) (a0 a1 a2 : Int32) (x y pl : Int) (g0 : a0.toInt = x) (g1 : a1.toInt = y) (g2 : a2.toInt = pl) (x0 : 0 ≤ x) (x1 : x < 512) (y0 : 0 ≤ y) (y1 : y < 512) (p0 : 0 ≤ pl) (p1 : pl < 8192) : Met l y_Place_keyOf (.code y_Place_keyOf b_Place_keyOf 3 (some .int) :: allw) ({ frames := 0, cells := 0, slots := 0, locals := 0 }) (va_Pc [.int a0, .int a1, .int a2] (ro_B (dC, dI) vwCl [] [])) (va_Qi (fun (r : Int32) (_ : Unit) => r.toInt = y * 4194304 + x * 8192 + pl) (fun _ _ => True) (fun _ => False)) 0 0 (fun _ => False) := by
  refine Met.ofW (cc := b_Place_keyOf) (maxL := 3) (ret := (some .int)) (by decide) rfl ?_
  intro p e s m args below meth c s₁ B hml hv
  obtain ⟨rfl, hP, hK⟩ := hv
  have hx := B.exec
  have hb := B.bytes
  have hr := B.returns
  have hts : ∀ w ∈ allw, w.before _ s = true := fun w h => atoms_spec (ws := .code y_Place_keyOf b_Place_keyOf 3 (some .int) :: allw) B.pre w (List.mem_cons_of_mem _ h)
  have hown : s.vm.findClass R_Place = some m.cls := findClass_of_methodNamed B.named
  have hlocks := B.notSynchronized
  have hS : va_S (fun _ => False) s.heap s.heap [] := va_S.rf
  have hP : va_P (dC, dI) vwCl [] s.heap := hP
  have hl := lv_entry ([.int a0, .int a1, .int a2]) (n := 3) (Nat.le_of_ble_eq_true rfl)
  rw [lg_entry_eq]
  generalize (lg_sl ([.int a0, .int a1, .int a2]) ++ List.replicate (3 - (lg_sl ([.int a0, .int a1, .int a2])).length) Slot.unset).toArray = ls at hl ⊢
  have hl : lv_has ls 3 [(0, .int a0), (1, .int a1), (2, .int a2)] := hl
  refine lv_iload_n hx hb d_Place_keyOf_0 rfl (lv_at hl 1 rfl) ?_
  refine lv_bipush (v := 22) hx hb d_Place_keyOf_1 (by decide) ?_
  refine lv_ishl hx hb d_Place_keyOf_3 ?_
  refine lv_topi (fun v3 e3 => ?_)
  refine lv_iload_n hx hb d_Place_keyOf_4 rfl (lv_at hl 0 rfl) ?_
  refine lv_bipush (v := 13) hx hb d_Place_keyOf_5 (by decide) ?_
  refine lv_ishl hx hb d_Place_keyOf_7 ?_
  refine lv_topi (fun v7 e7 => ?_)
  refine lv_ior hx hb d_Place_keyOf_8 ?_
  refine lv_topi (fun v8 e8 => ?_)
  refine lv_iload_n hx hb d_Place_keyOf_9 rfl (lv_at hl 2 rfl) ?_
  refine lv_ior hx hb d_Place_keyOf_10 ?_
  refine lv_topi (fun v10 e10 => ?_)
  have hpost : v10.toInt = y * 4194304 + x * 8192 + pl := by
    rw [e10, e8, e3, e7]
    exact key_of g0 g1 g2 x0 x1 y0 y1 p0 p1
  exact W.iret (v := v10) hx hb hr (fun t ht hW => ⟨⟨v10, (), rfl, hpost, trivial⟩, hS.F ht⟩) hS.2.2 d_Place_keyOf_11

set_option maxHeartbeats 4000000 in
set_option maxRecDepth 100000 in
theorem c_haveCommonDot (l : Launch) (dC : Nat → ClassId) (dI : Nat → Nat → Nat) (a0 a1 : Int32) (KA KB : Int) (g0 : a0.toInt = KA) (g1 : a1.toInt = KB) (hA : 0 ≤ KA) (hB : 0 ≤ KB) : Met l y_Place_haveCommonDot (.code y_Place_haveCommonDot b_Place_haveCommonDot 4 (some .boolean) :: allw) ({ frames := 1, cells := 0, slots := 0, locals := 20 }) (va_Pc [.int a0, .int a1] (ro_B (dC, dI) vwCl [] [])) (va_Qi (fun (r : Int32) (_ : Unit) => isB r (comm KA KB)) (fun _ _ => True) (fun _ => False)) 0 0 (fun _ => False) := by
  refine Met.ofW (cc := b_Place_haveCommonDot) (maxL := 4) (ret := (some .boolean)) (by decide) rfl ?_
  intro p e s m args below meth c s₁ B hml hv
  obtain ⟨rfl, hP, hK⟩ := hv
  have hx := B.exec
  have hb := B.bytes
  have hr := B.returns
  have hts : ∀ w ∈ allw, w.before _ s = true := fun w h => atoms_spec (ws := .code y_Place_haveCommonDot b_Place_haveCommonDot 4 (some .boolean) :: allw) B.pre w (List.mem_cons_of_mem _ h)
  have hown : s.vm.findClass R_Place = some m.cls := findClass_of_methodNamed B.named
  have hlocks := B.notSynchronized
  have hS : va_S (fun _ => False) s.heap s.heap [] := va_S.rf
  have hP : va_P (dC, dI) vwCl [] s.heap := hP
  have hl := lv_entry ([.int a0, .int a1]) (n := 4) (Nat.le_of_ble_eq_true rfl)
  rw [lg_entry_eq]
  generalize (lg_sl ([.int a0, .int a1]) ++ List.replicate (4 - (lg_sl ([.int a0, .int a1])).length) Slot.unset).toArray = ls at hl ⊢
  have hl : lv_has ls 4 [(0, .int a0), (1, .int a1)] := hl
  have mA := mul_b2 (a := KA / 256 % 32) (b := 17 + 4 * (KA / 4 % 64)) (p := 31) (q := 269) (by omega) (by omega) (by omega) (by omega)
  have mA0 := Int.mul_nonneg (show 0 ≤ KA / 256 % 32 by omega) (show 0 ≤ 17 + 4 * (KA / 4 % 64) by omega)
  have mB := mul_b2 (a := KB / 256 % 32) (b := 17 + 4 * (KB / 4 % 64)) (p := 31) (q := 269) (by omega) (by omega) (by omega) (by omega)
  have mB0 := Int.mul_nonneg (show 0 ≤ KB / 256 % 32 by omega) (show 0 ≤ 17 + 4 * (KB / 4 % 64) by omega)
  refine lv_iload_n hx hb d_Place_haveCommonDot_0 rfl (lv_at hl 0 rfl) ?_
  have hPc := hP.sub (ws' := []) [] rfl
  have hKc := hK.sub (tys' := []) [] rfl
  refine va_calli (va_runS (As := [.int a0]) (rest := []) ⟨hx, hb, hml, hown, hts⟩ (c_moduleOf l dC dI a0 KA g0 hA) (aw_S 1 hts wd_315 wd_290 wd_13 wd_291 rfl rfl (by decide +kernel) ⟨Nat.le_of_ble_eq_true rfl, Nat.le_of_ble_eq_true rfl⟩) ⟨ro_blind, ro_pre hPc hKc⟩ rfl rfl hl.1 rfl (lv_room (Nat.le_of_ble_eq_true rfl)) d_Place_haveCommonDot_1 ⟨Nat.le_of_ble_eq_true rfl, Nat.le_of_ble_eq_true rfl⟩) hS (fun q _ h => h.elim) (fun q h => h.elim) (fun v1 _ t H1 locs ht hvm h1 hB hz1 hk1 hS => ?_)
  have hP := ro_keep hP hk1
  clear hPc hKc ht hvm hB hz1 hk1
  refine lv_iload_n hx hb d_Place_haveCommonDot_4 rfl (lv_at hl 0 rfl) ?_
  have hPc := hP.sub (ws' := []) [] rfl
  have hKc := hK.sub (tys' := []) [] rfl
  refine va_calli (va_runS (As := [.int a0]) (rest := [.int v1]) ⟨hx, hb, hml, hown, hts⟩ (c_versionOf l dC dI a0 KA g0 hA) (aw_S 1 hts wd_316 wd_293 wd_13 wd_294 rfl rfl (by decide +kernel) ⟨Nat.le_of_ble_eq_true rfl, Nat.le_of_ble_eq_true rfl⟩) ⟨ro_blind, ro_pre hPc hKc⟩ rfl rfl hl.1 rfl (lv_room (Nat.le_of_ble_eq_true rfl)) d_Place_haveCommonDot_5 ⟨Nat.le_of_ble_eq_true rfl, Nat.le_of_ble_eq_true rfl⟩) hS (fun q _ h => h.elim) (fun q h => h.elim) (fun v5 _ t H5 locs ht hvm h5 hB hz1 hk1 hS => ?_)
  have hP := ro_keep hP hk1
  clear hPc hKc ht hvm hB hz1 hk1
  have hPc := hP.sub (ws' := []) [] rfl
  have hKc := hK.sub (tys' := []) [] rfl
  refine va_calli (va_runS (As := [.int v5]) (rest := [.int v1]) ⟨hx, hb, hml, hown, hts⟩ (c_sizeOf l dC dI v5 (KA / 4 % 64) h5 (by omega) (by omega)) (aw_S 1 hts wd_317 wd_297 wd_13 wd_298 rfl rfl (by decide +kernel) ⟨Nat.le_of_ble_eq_true rfl, Nat.le_of_ble_eq_true rfl⟩) ⟨ro_blind, ro_pre hPc hKc⟩ rfl rfl hl.1 rfl (lv_room (Nat.le_of_ble_eq_true rfl)) d_Place_haveCommonDot_8 ⟨Nat.le_of_ble_eq_true rfl, Nat.le_of_ble_eq_true rfl⟩) hS (fun q _ h => h.elim) (fun q h => h.elim) (fun v8 _ t H8 locs ht hvm h8 hB hz1 hk1 hS => ?_)
  have hP := ro_keep hP hk1
  clear hPc hKc ht hvm hB hz1 hk1
  refine lv_imul hx hb d_Place_haveCommonDot_11 ?_
  refine lv_topi (fun v11 e11 => ?_)
  have h11 : v11.toInt = (KA / 256 % 32) * (17 + 4 * (KA / 4 % 64)) := by rw [e11]; exact ti_mul h1 h8 (by omega) (by omega)
  obtain ⟨LA, kLA⟩ : ∃ c : Int, c = ((KA / 256 % 32) * (17 + 4 * (KA / 4 % 64))) := ⟨_, rfl⟩
  have h11 : v11.toInt = LA := by rw [h11, kLA]
  refine lv_istore_n (lv' := [(2, .int v11), (0, .int a0), (1, .int a1)]) hx hb d_Place_haveCommonDot_12 rfl hl (by decide) rfl (fun ls hl => ?_)
  refine lv_iload_n hx hb d_Place_haveCommonDot_13 rfl (lv_at hl 2 rfl) ?_
  have hPc := hP.sub (ws' := []) [] rfl
  have hKc := hK.sub (tys' := []) [] rfl
  refine va_calli (va_runS (As := [.int a1]) (rest := []) ⟨hx, hb, hml, hown, hts⟩ (c_moduleOf l dC dI a1 KB g1 hB) (aw_S 1 hts wd_315 wd_290 wd_13 wd_291 rfl rfl (by decide +kernel) ⟨Nat.le_of_ble_eq_true rfl, Nat.le_of_ble_eq_true rfl⟩) ⟨ro_blind, ro_pre hPc hKc⟩ rfl rfl hl.1 rfl (lv_room (Nat.le_of_ble_eq_true rfl)) d_Place_haveCommonDot_14 ⟨Nat.le_of_ble_eq_true rfl, Nat.le_of_ble_eq_true rfl⟩) hS (fun q _ h => h.elim) (fun q h => h.elim) (fun v14 _ t H14 locs ht hvm h14 hB hz1 hk1 hS => ?_)
  have hP := ro_keep hP hk1
  clear hPc hKc ht hvm hB hz1 hk1
  refine lv_iload_n hx hb d_Place_haveCommonDot_17 rfl (lv_at hl 2 rfl) ?_
  have hPc := hP.sub (ws' := []) [] rfl
  have hKc := hK.sub (tys' := []) [] rfl
  refine va_calli (va_runS (As := [.int a1]) (rest := [.int v14]) ⟨hx, hb, hml, hown, hts⟩ (c_versionOf l dC dI a1 KB g1 hB) (aw_S 1 hts wd_316 wd_293 wd_13 wd_294 rfl rfl (by decide +kernel) ⟨Nat.le_of_ble_eq_true rfl, Nat.le_of_ble_eq_true rfl⟩) ⟨ro_blind, ro_pre hPc hKc⟩ rfl rfl hl.1 rfl (lv_room (Nat.le_of_ble_eq_true rfl)) d_Place_haveCommonDot_18 ⟨Nat.le_of_ble_eq_true rfl, Nat.le_of_ble_eq_true rfl⟩) hS (fun q _ h => h.elim) (fun q h => h.elim) (fun v18 _ t H18 locs ht hvm h18 hB hz1 hk1 hS => ?_)
  have hP := ro_keep hP hk1
  clear hPc hKc ht hvm hB hz1 hk1
  have hPc := hP.sub (ws' := []) [] rfl
  have hKc := hK.sub (tys' := []) [] rfl
  refine va_calli (va_runS (As := [.int v18]) (rest := [.int v14]) ⟨hx, hb, hml, hown, hts⟩ (c_sizeOf l dC dI v18 (KB / 4 % 64) h18 (by omega) (by omega)) (aw_S 1 hts wd_317 wd_297 wd_13 wd_298 rfl rfl (by decide +kernel) ⟨Nat.le_of_ble_eq_true rfl, Nat.le_of_ble_eq_true rfl⟩) ⟨ro_blind, ro_pre hPc hKc⟩ rfl rfl hl.1 rfl (lv_room (Nat.le_of_ble_eq_true rfl)) d_Place_haveCommonDot_21 ⟨Nat.le_of_ble_eq_true rfl, Nat.le_of_ble_eq_true rfl⟩) hS (fun q _ h => h.elim) (fun q h => h.elim) (fun v21 _ t H21 locs ht hvm h21 hB hz1 hk1 hS => ?_)
  have hP := ro_keep hP hk1
  clear hPc hKc ht hvm hB hz1 hk1
  refine lv_imul hx hb d_Place_haveCommonDot_24 ?_
  refine lv_topi (fun v24 e24 => ?_)
  have h24 : v24.toInt = (KB / 256 % 32) * (17 + 4 * (KB / 4 % 64)) := by rw [e24]; exact ti_mul h14 h21 (by omega) (by omega)
  obtain ⟨LB, kLB⟩ : ∃ c : Int, c = ((KB / 256 % 32) * (17 + 4 * (KB / 4 % 64))) := ⟨_, rfl⟩
  have h24 : v24.toInt = LB := by rw [h24, kLB]
  refine lv_istore_n (lv' := [(3, .int v24), (2, .int v11), (0, .int a0), (1, .int a1)]) hx hb d_Place_haveCommonDot_25 rfl hl (by decide) rfl (fun ls hl => ?_)
  refine lv_iload_n hx hb d_Place_haveCommonDot_26 rfl (lv_at hl 2 rfl) ?_
  have hPc := hP.sub (ws' := []) [] rfl
  have hKc := hK.sub (tys' := []) [] rfl
  refine va_calli (va_runS (As := [.int a0]) (rest := []) ⟨hx, hb, hml, hown, hts⟩ (c_leftOf l dC dI a0 KA g0 hA) (aw_S 1 hts wd_309 wd_310 wd_13 wd_311 rfl rfl (by decide +kernel) ⟨Nat.le_of_ble_eq_true rfl, Nat.le_of_ble_eq_true rfl⟩) ⟨ro_blind, ro_pre hPc hKc⟩ rfl rfl hl.1 rfl (lv_room (Nat.le_of_ble_eq_true rfl)) d_Place_haveCommonDot_27 ⟨Nat.le_of_ble_eq_true rfl, Nat.le_of_ble_eq_true rfl⟩) hS (fun q _ h => h.elim) (fun q h => h.elim) (fun v27 _ t H27 locs ht hvm h27 hB hz1 hk1 hS => ?_)
  have hP := ro_keep hP hk1
  clear hPc hKc ht hvm hB hz1 hk1
  refine lv_iload_n hx hb d_Place_haveCommonDot_30 rfl (lv_at hl 3 rfl) ?_
  have hPc := hP.sub (ws' := []) [] rfl
  have hKc := hK.sub (tys' := []) [] rfl
  refine va_calli (va_runS (As := [.int a1]) (rest := [.int v27]) ⟨hx, hb, hml, hown, hts⟩ (c_leftOf l dC dI a1 KB g1 hB) (aw_S 1 hts wd_309 wd_310 wd_13 wd_311 rfl rfl (by decide +kernel) ⟨Nat.le_of_ble_eq_true rfl, Nat.le_of_ble_eq_true rfl⟩) ⟨ro_blind, ro_pre hPc hKc⟩ rfl rfl hl.1 rfl (lv_room (Nat.le_of_ble_eq_true rfl)) d_Place_haveCommonDot_31 ⟨Nat.le_of_ble_eq_true rfl, Nat.le_of_ble_eq_true rfl⟩) hS (fun q _ h => h.elim) (fun q h => h.elim) (fun v31 _ t H31 locs ht hvm h31 hB hz1 hk1 hS => ?_)
  have hP := ro_keep hP hk1
  clear hPc hKc ht hvm hB hz1 hk1
  refine lv_iload_n hx hb d_Place_haveCommonDot_34 rfl (lv_at hl 0 rfl) ?_
  refine lv_iadd hx hb d_Place_haveCommonDot_35 ?_
  refine lv_topi (fun v35 e35 => ?_)
  have h35 : v35.toInt = (KB / 8192 % 512) + LB := by rw [e35]; exact ti_add h31 h24 (by omega) (by omega)
  refine lv_icmp_ge (tgt := 82) hx hb d_Place_haveCommonDot_36 (by decide) (fun c36 => ?_) (fun c36 => ?_)
  · skip
    have c36 : ((KB / 8192 % 512) + LB) ≤ (KA / 8192 % 512) := (ti_le h35 h27).mp c36
    refine lv_iconst (v := 0) hx hb d_Place_haveCommonDot_82 (by decide) ?_
    have hpost : isB 0 (comm KA KB) := by
      refine Or.inr ⟨rfl, ?_⟩
      unfold comm klen
      rw [← kLA, ← kLB]
      omega
    exact W.zret (v := 0) hx hb hr (by decide) (fun t ht hW => ⟨⟨0, (), rfl, hpost, trivial⟩, hS.F ht⟩) hS.2.2 d_Place_haveCommonDot_83
  · skip
    have c36 : ¬ (((KB / 8192 % 512) + LB) ≤ (KA / 8192 % 512)) := fun q => c36 ((ti_le h35 h27).mpr q)
    refine lv_iload_n hx hb d_Place_haveCommonDot_39 rfl (lv_at hl 3 rfl) ?_
    have hPc := hP.sub (ws' := []) [] rfl
    have hKc := hK.sub (tys' := []) [] rfl
    refine va_calli (va_runS (As := [.int a1]) (rest := []) ⟨hx, hb, hml, hown, hts⟩ (c_leftOf l dC dI a1 KB g1 hB) (aw_S 1 hts wd_309 wd_310 wd_13 wd_311 rfl rfl (by decide +kernel) ⟨Nat.le_of_ble_eq_true rfl, Nat.le_of_ble_eq_true rfl⟩) ⟨ro_blind, ro_pre hPc hKc⟩ rfl rfl hl.1 rfl (lv_room (Nat.le_of_ble_eq_true rfl)) d_Place_haveCommonDot_40 ⟨Nat.le_of_ble_eq_true rfl, Nat.le_of_ble_eq_true rfl⟩) hS (fun q _ h => h.elim) (fun q h => h.elim) (fun v40 _ t H40 locs ht hvm h40 hB hz1 hk1 hS => ?_)
    have hP := ro_keep hP hk1
    clear hPc hKc ht hvm hB hz1 hk1
    refine lv_iload_n hx hb d_Place_haveCommonDot_43 rfl (lv_at hl 2 rfl) ?_
    have hPc := hP.sub (ws' := []) [] rfl
    have hKc := hK.sub (tys' := []) [] rfl
    refine va_calli (va_runS (As := [.int a0]) (rest := [.int v40]) ⟨hx, hb, hml, hown, hts⟩ (c_leftOf l dC dI a0 KA g0 hA) (aw_S 1 hts wd_309 wd_310 wd_13 wd_311 rfl rfl (by decide +kernel) ⟨Nat.le_of_ble_eq_true rfl, Nat.le_of_ble_eq_true rfl⟩) ⟨ro_blind, ro_pre hPc hKc⟩ rfl rfl hl.1 rfl (lv_room (Nat.le_of_ble_eq_true rfl)) d_Place_haveCommonDot_44 ⟨Nat.le_of_ble_eq_true rfl, Nat.le_of_ble_eq_true rfl⟩) hS (fun q _ h => h.elim) (fun q h => h.elim) (fun v44 _ t H44 locs ht hvm h44 hB hz1 hk1 hS => ?_)
    have hP := ro_keep hP hk1
    clear hPc hKc ht hvm hB hz1 hk1
    refine lv_iload_n hx hb d_Place_haveCommonDot_47 rfl (lv_at hl 1 rfl) ?_
    refine lv_iadd hx hb d_Place_haveCommonDot_48 ?_
    refine lv_topi (fun v48 e48 => ?_)
    have h48 : v48.toInt = (KA / 8192 % 512) + LA := by rw [e48]; exact ti_add h44 h11 (by omega) (by omega)
    refine lv_icmp_ge (tgt := 82) hx hb d_Place_haveCommonDot_49 (by decide) (fun c49 => ?_) (fun c49 => ?_)
    · skip
      have c49 : ((KA / 8192 % 512) + LA) ≤ (KB / 8192 % 512) := (ti_le h48 h40).mp c49
      refine lv_iconst (v := 0) hx hb d_Place_haveCommonDot_82 (by decide) ?_
      have hpost : isB 0 (comm KA KB) := by
        refine Or.inr ⟨rfl, ?_⟩
        unfold comm klen
        rw [← kLA, ← kLB]
        omega
      exact W.zret (v := 0) hx hb hr (by decide) (fun t ht hW => ⟨⟨0, (), rfl, hpost, trivial⟩, hS.F ht⟩) hS.2.2 d_Place_haveCommonDot_83
    · skip
      have c49 : ¬ (((KA / 8192 % 512) + LA) ≤ (KB / 8192 % 512)) := fun q => c49 ((ti_le h48 h40).mpr q)
      refine lv_iload_n hx hb d_Place_haveCommonDot_52 rfl (lv_at hl 2 rfl) ?_
      have hPc := hP.sub (ws' := []) [] rfl
      have hKc := hK.sub (tys' := []) [] rfl
      refine va_calli (va_runS (As := [.int a0]) (rest := []) ⟨hx, hb, hml, hown, hts⟩ (c_topOf l dC dI a0 KA g0 hA) (aw_S 1 hts wd_312 wd_313 wd_13 wd_314 rfl rfl (by decide +kernel) ⟨Nat.le_of_ble_eq_true rfl, Nat.le_of_ble_eq_true rfl⟩) ⟨ro_blind, ro_pre hPc hKc⟩ rfl rfl hl.1 rfl (lv_room (Nat.le_of_ble_eq_true rfl)) d_Place_haveCommonDot_53 ⟨Nat.le_of_ble_eq_true rfl, Nat.le_of_ble_eq_true rfl⟩) hS (fun q _ h => h.elim) (fun q h => h.elim) (fun v53 _ t H53 locs ht hvm h53 hB hz1 hk1 hS => ?_)
      have hP := ro_keep hP hk1
      clear hPc hKc ht hvm hB hz1 hk1
      refine lv_iload_n hx hb d_Place_haveCommonDot_56 rfl (lv_at hl 3 rfl) ?_
      have hPc := hP.sub (ws' := []) [] rfl
      have hKc := hK.sub (tys' := []) [] rfl
      refine va_calli (va_runS (As := [.int a1]) (rest := [.int v53]) ⟨hx, hb, hml, hown, hts⟩ (c_topOf l dC dI a1 KB g1 hB) (aw_S 1 hts wd_312 wd_313 wd_13 wd_314 rfl rfl (by decide +kernel) ⟨Nat.le_of_ble_eq_true rfl, Nat.le_of_ble_eq_true rfl⟩) ⟨ro_blind, ro_pre hPc hKc⟩ rfl rfl hl.1 rfl (lv_room (Nat.le_of_ble_eq_true rfl)) d_Place_haveCommonDot_57 ⟨Nat.le_of_ble_eq_true rfl, Nat.le_of_ble_eq_true rfl⟩) hS (fun q _ h => h.elim) (fun q h => h.elim) (fun v57 _ t H57 locs ht hvm h57 hB hz1 hk1 hS => ?_)
      have hP := ro_keep hP hk1
      clear hPc hKc ht hvm hB hz1 hk1
      refine lv_iload_n hx hb d_Place_haveCommonDot_60 rfl (lv_at hl 0 rfl) ?_
      refine lv_iadd hx hb d_Place_haveCommonDot_61 ?_
      refine lv_topi (fun v61 e61 => ?_)
      have h61 : v61.toInt = (KB / 4194304 % 512) + LB := by rw [e61]; exact ti_add h57 h24 (by omega) (by omega)
      refine lv_icmp_ge (tgt := 82) hx hb d_Place_haveCommonDot_62 (by decide) (fun c62 => ?_) (fun c62 => ?_)
      · skip
        have c62 : ((KB / 4194304 % 512) + LB) ≤ (KA / 4194304 % 512) := (ti_le h61 h53).mp c62
        refine lv_iconst (v := 0) hx hb d_Place_haveCommonDot_82 (by decide) ?_
        have hpost : isB 0 (comm KA KB) := by
          refine Or.inr ⟨rfl, ?_⟩
          unfold comm klen
          rw [← kLA, ← kLB]
          omega
        exact W.zret (v := 0) hx hb hr (by decide) (fun t ht hW => ⟨⟨0, (), rfl, hpost, trivial⟩, hS.F ht⟩) hS.2.2 d_Place_haveCommonDot_83
      · skip
        have c62 : ¬ (((KB / 4194304 % 512) + LB) ≤ (KA / 4194304 % 512)) := fun q => c62 ((ti_le h61 h53).mpr q)
        refine lv_iload_n hx hb d_Place_haveCommonDot_65 rfl (lv_at hl 3 rfl) ?_
        have hPc := hP.sub (ws' := []) [] rfl
        have hKc := hK.sub (tys' := []) [] rfl
        refine va_calli (va_runS (As := [.int a1]) (rest := []) ⟨hx, hb, hml, hown, hts⟩ (c_topOf l dC dI a1 KB g1 hB) (aw_S 1 hts wd_312 wd_313 wd_13 wd_314 rfl rfl (by decide +kernel) ⟨Nat.le_of_ble_eq_true rfl, Nat.le_of_ble_eq_true rfl⟩) ⟨ro_blind, ro_pre hPc hKc⟩ rfl rfl hl.1 rfl (lv_room (Nat.le_of_ble_eq_true rfl)) d_Place_haveCommonDot_66 ⟨Nat.le_of_ble_eq_true rfl, Nat.le_of_ble_eq_true rfl⟩) hS (fun q _ h => h.elim) (fun q h => h.elim) (fun v66 _ t H66 locs ht hvm h66 hB hz1 hk1 hS => ?_)
        have hP := ro_keep hP hk1
        clear hPc hKc ht hvm hB hz1 hk1
        refine lv_iload_n hx hb d_Place_haveCommonDot_69 rfl (lv_at hl 2 rfl) ?_
        have hPc := hP.sub (ws' := []) [] rfl
        have hKc := hK.sub (tys' := []) [] rfl
        refine va_calli (va_runS (As := [.int a0]) (rest := [.int v66]) ⟨hx, hb, hml, hown, hts⟩ (c_topOf l dC dI a0 KA g0 hA) (aw_S 1 hts wd_312 wd_313 wd_13 wd_314 rfl rfl (by decide +kernel) ⟨Nat.le_of_ble_eq_true rfl, Nat.le_of_ble_eq_true rfl⟩) ⟨ro_blind, ro_pre hPc hKc⟩ rfl rfl hl.1 rfl (lv_room (Nat.le_of_ble_eq_true rfl)) d_Place_haveCommonDot_70 ⟨Nat.le_of_ble_eq_true rfl, Nat.le_of_ble_eq_true rfl⟩) hS (fun q _ h => h.elim) (fun q h => h.elim) (fun v70 _ t H70 locs ht hvm h70 hB hz1 hk1 hS => ?_)
        have hP := ro_keep hP hk1
        clear hPc hKc ht hvm hB hz1 hk1
        refine lv_iload_n hx hb d_Place_haveCommonDot_73 rfl (lv_at hl 1 rfl) ?_
        refine lv_iadd hx hb d_Place_haveCommonDot_74 ?_
        refine lv_topi (fun v74 e74 => ?_)
        have h74 : v74.toInt = (KA / 4194304 % 512) + LA := by rw [e74]; exact ti_add h70 h11 (by omega) (by omega)
        refine lv_icmp_ge (tgt := 82) hx hb d_Place_haveCommonDot_75 (by decide) (fun c75 => ?_) (fun c75 => ?_)
        · skip
          have c75 : ((KA / 4194304 % 512) + LA) ≤ (KB / 4194304 % 512) := (ti_le h74 h66).mp c75
          refine lv_iconst (v := 0) hx hb d_Place_haveCommonDot_82 (by decide) ?_
          have hpost : isB 0 (comm KA KB) := by
            refine Or.inr ⟨rfl, ?_⟩
            unfold comm klen
            rw [← kLA, ← kLB]
            omega
          exact W.zret (v := 0) hx hb hr (by decide) (fun t ht hW => ⟨⟨0, (), rfl, hpost, trivial⟩, hS.F ht⟩) hS.2.2 d_Place_haveCommonDot_83
        · skip
          have c75 : ¬ (((KA / 4194304 % 512) + LA) ≤ (KB / 4194304 % 512)) := fun q => c75 ((ti_le h74 h66).mpr q)
          refine lv_iconst (v := 1) hx hb d_Place_haveCommonDot_78 (by decide) ?_
          refine lv_goto (tgt := 83) hx hb d_Place_haveCommonDot_79 (by decide) ?_
          have hpost : isB 1 (comm KA KB) := by
            refine Or.inl ⟨rfl, ?_⟩
            unfold comm klen
            rw [← kLA, ← kLB]
            omega
          exact W.zret (v := 1) hx hb hr (by decide) (fun t ht hW => ⟨⟨1, (), rfl, hpost, trivial⟩, hS.F ht⟩) hS.2.2 d_Place_haveCommonDot_83

set_option maxHeartbeats 4000000 in
set_option maxRecDepth 100000 in
theorem c_hasModule (l : Launch) (dC : Nat → ClassId) (dI : Nat → Nat → Nat) (ho : Nat) (ol ot om os oq : Int32) (L T M S Q : Int) (hol : ol.toInt = L) (hot : ot.toInt = T) (hom : om.toInt = M) (hos : os.toInt = S) (hoq : oq.toInt = Q) (a1 a2 : Int32) (i j : Int) (g1 : a1.toInt = i) (g2 : a2.toInt = j) : Met l y_Place_hasModule (.code y_Place_hasModule b_Place_hasModule 3 (some .boolean) :: allw) ({ frames := 0, cells := 0, slots := 0, locals := 0 }) (va_Pc [.ref ho, .int a1, .int a2] (ro_B (dC, dI) vwCl [(ho, .inr (1, [.int ol, .int ot, .int om, .int os, .int oq]))] [])) (va_Qi (fun (r : Int32) (_ : Unit) => isB r (0 ≤ i ∧ i < S ∧ 0 ≤ j ∧ j < S)) (fun _ _ => True) (fun _ => False)) 0 0 (fun _ => False) := by
  refine Met.ofW (cc := b_Place_hasModule) (maxL := 3) (ret := (some .boolean)) (by decide) rfl ?_
  intro p e s m args below meth c s₁ B hml hv
  obtain ⟨rfl, hP, hK⟩ := hv
  have hx := B.exec
  have hb := B.bytes
  have hr := B.returns
  have hts : ∀ w ∈ allw, w.before _ s = true := fun w h => atoms_spec (ws := .code y_Place_hasModule b_Place_hasModule 3 (some .boolean) :: allw) B.pre w (List.mem_cons_of_mem _ h)
  have hown : s.vm.findClass R_Place = some m.cls := findClass_of_methodNamed B.named
  have hlocks := B.notSynchronized
  have hS : va_S (fun _ => False) s.heap s.heap [] := va_S.rf
  have hP : va_P (dC, dI) vwCl [(ho, .inr (1, [.int ol, .int ot, .int om, .int os, .int oq]))] s.heap := hP
  have hl := lv_entry ([.ref ho, .int a1, .int a2]) (n := 3) (Nat.le_of_ble_eq_true rfl)
  rw [lg_entry_eq]
  generalize (lg_sl ([.ref ho, .int a1, .int a2]) ++ List.replicate (3 - (lg_sl ([.ref ho, .int a1, .int a2])).length) Slot.unset).toArray = ls at hl ⊢
  have hl : lv_has ls 3 [(0, .ref ho), (1, .int a1), (2, .int a2)] := hl
  refine lv_iload_n hx hb d_Place_hasModule_0 rfl (lv_at hl 1 rfl) ?_
  refine lv_if_lt (tgt := 28) hx hb d_Place_hasModule_1 (by decide) (fun c1 => ?_) (fun c1 => ?_)
  · skip
    have c1 : i < 0 := (ti_lt g1 (ti_k (by decide))).mp c1
    refine lv_iconst (v := 0) hx hb d_Place_hasModule_28 (by decide) ?_
    have hpost : isB 0 (0 ≤ i ∧ i < S ∧ 0 ≤ j ∧ j < S) := by
      exact Or.inr ⟨rfl, by omega⟩
    exact W.zret (v := 0) hx hb hr (by decide) (fun t ht hW => ⟨⟨0, (), rfl, hpost, trivial⟩, hS.F ht⟩) hS.2.2 d_Place_hasModule_29
  · skip
    have c1 : ¬ (i < 0) := fun q => c1 ((ti_lt g1 (ti_k (by decide))).mpr q)
    refine lv_iload_n hx hb d_Place_hasModule_4 rfl (lv_at hl 1 rfl) ?_
    refine lv_aload_n hx hb d_Place_hasModule_5 rfl (lv_at hl 0 rfl) ?_
    refine va_get (D := (dC, dI)) (ci := 1) (v := .int os) (C := R_Place) (T := T_Place) (N := 5) hx hb hts i_Place hown hK hP 0 rfl rfl 3 (by decide) (hts _ wd_325) (fun _ h9 => h9) rfl d_Place_hasModule_6 ?_
    refine lv_icmp_ge (tgt := 28) hx hb d_Place_hasModule_9 (by decide) (fun c9 => ?_) (fun c9 => ?_)
    · skip
      have c9 : S ≤ i := (ti_le hos g1).mp c9
      refine lv_iconst (v := 0) hx hb d_Place_hasModule_28 (by decide) ?_
      have hpost : isB 0 (0 ≤ i ∧ i < S ∧ 0 ≤ j ∧ j < S) := by
        exact Or.inr ⟨rfl, by omega⟩
      exact W.zret (v := 0) hx hb hr (by decide) (fun t ht hW => ⟨⟨0, (), rfl, hpost, trivial⟩, hS.F ht⟩) hS.2.2 d_Place_hasModule_29
    · skip
      have c9 : ¬ (S ≤ i) := fun q => c9 ((ti_le hos g1).mpr q)
      refine lv_iload_n hx hb d_Place_hasModule_12 rfl (lv_at hl 2 rfl) ?_
      refine lv_if_lt (tgt := 28) hx hb d_Place_hasModule_13 (by decide) (fun c13 => ?_) (fun c13 => ?_)
      · skip
        have c13 : j < 0 := (ti_lt g2 (ti_k (by decide))).mp c13
        refine lv_iconst (v := 0) hx hb d_Place_hasModule_28 (by decide) ?_
        have hpost : isB 0 (0 ≤ i ∧ i < S ∧ 0 ≤ j ∧ j < S) := by
          exact Or.inr ⟨rfl, by omega⟩
        exact W.zret (v := 0) hx hb hr (by decide) (fun t ht hW => ⟨⟨0, (), rfl, hpost, trivial⟩, hS.F ht⟩) hS.2.2 d_Place_hasModule_29
      · skip
        have c13 : ¬ (j < 0) := fun q => c13 ((ti_lt g2 (ti_k (by decide))).mpr q)
        refine lv_iload_n hx hb d_Place_hasModule_16 rfl (lv_at hl 2 rfl) ?_
        refine lv_aload_n hx hb d_Place_hasModule_17 rfl (lv_at hl 0 rfl) ?_
        refine va_get (D := (dC, dI)) (ci := 1) (v := .int os) (C := R_Place) (T := T_Place) (N := 5) hx hb hts i_Place hown hK hP 0 rfl rfl 3 (by decide) (hts _ wd_325) (fun _ h9 => h9) rfl d_Place_hasModule_18 ?_
        refine lv_icmp_ge (tgt := 28) hx hb d_Place_hasModule_21 (by decide) (fun c21 => ?_) (fun c21 => ?_)
        · skip
          have c21 : S ≤ j := (ti_le hos g2).mp c21
          refine lv_iconst (v := 0) hx hb d_Place_hasModule_28 (by decide) ?_
          have hpost : isB 0 (0 ≤ i ∧ i < S ∧ 0 ≤ j ∧ j < S) := by
            exact Or.inr ⟨rfl, by omega⟩
          exact W.zret (v := 0) hx hb hr (by decide) (fun t ht hW => ⟨⟨0, (), rfl, hpost, trivial⟩, hS.F ht⟩) hS.2.2 d_Place_hasModule_29
        · skip
          have c21 : ¬ (S ≤ j) := fun q => c21 ((ti_le hos g2).mpr q)
          refine lv_iconst (v := 1) hx hb d_Place_hasModule_24 (by decide) ?_
          refine lv_goto (tgt := 29) hx hb d_Place_hasModule_25 (by decide) ?_
          have hpost : isB 1 (0 ≤ i ∧ i < S ∧ 0 ≤ j ∧ j < S) := by
            exact Or.inl ⟨rfl, by omega⟩
          exact W.zret (v := 1) hx hb hr (by decide) (fun t ht hW => ⟨⟨1, (), rfl, hpost, trivial⟩, hS.F ht⟩) hS.2.2 d_Place_hasModule_29

set_option maxHeartbeats 4000000 in
set_option maxRecDepth 100000 in
theorem c_blockLeft (l : Launch) (dC : Nat → ClassId) (dI : Nat → Nat → Nat) (ho : Nat) (ol ot om os oq : Int32) (L T M S Q : Int) (hol : ol.toInt = L) (hot : ot.toInt = T) (hom : om.toInt = M) (hos : os.toInt = S) (hoq : oq.toInt = Q) (a1 a2 : Int32) (i j : Int) (g1 : a1.toInt = i) (g2 : a2.toInt = j) (i0 : 0 ≤ i) (i1 : i < S) (j0 : 0 ≤ j) (j1 : j < S) (hS7 : S ≤ 177) (hM0 : 1 ≤ M) (hM1 : M ≤ 16) (hL0 : 0 ≤ L) (hL1 : L ≤ 512) (hT0 : 0 ≤ T) (hT1 : T ≤ 512) : Met l y_Place_blockLeft (.code y_Place_blockLeft b_Place_blockLeft 5 (some .int) :: allw) ({ frames := 0, cells := 0, slots := 0, locals := 0 }) (va_Pc [.ref ho, .int a1, .int a2] (ro_B (dC, dI) vwCl [(ho, .inr (1, [.int ol, .int ot, .int om, .int os, .int oq]))] [])) (va_Qi (fun (r : Int32) (_ : Unit) => r.toInt = L + M * bA S Q i j) (fun _ _ => True) (fun _ => False)) 0 0 (fun _ => False) := by
  refine Met.ofW (cc := b_Place_blockLeft) (maxL := 5) (ret := (some .int)) (by decide) rfl ?_
  intro p e s m args below meth c s₁ B hml hv
  obtain ⟨rfl, hP, hK⟩ := hv
  have hx := B.exec
  have hb := B.bytes
  have hr := B.returns
  have hts : ∀ w ∈ allw, w.before _ s = true := fun w h => atoms_spec (ws := .code y_Place_blockLeft b_Place_blockLeft 5 (some .int) :: allw) B.pre w (List.mem_cons_of_mem _ h)
  have hown : s.vm.findClass R_Place = some m.cls := findClass_of_methodNamed B.named
  have hlocks := B.notSynchronized
  have hS : va_S (fun _ => False) s.heap s.heap [] := va_S.rf
  have hP : va_P (dC, dI) vwCl [(ho, .inr (1, [.int ol, .int ot, .int om, .int os, .int oq]))] s.heap := hP
  have hl := lv_entry ([.ref ho, .int a1, .int a2]) (n := 5) (Nat.le_of_ble_eq_true rfl)
  rw [lg_entry_eq]
  generalize (lg_sl ([.ref ho, .int a1, .int a2]) ++ List.replicate (5 - (lg_sl ([.ref ho, .int a1, .int a2])).length) Slot.unset).toArray = ls at hl ⊢
  have hl : lv_has ls 5 [(0, .ref ho), (1, .int a1), (2, .int a2)] := hl
  refine lv_aload_n hx hb d_Place_blockLeft_0 rfl (lv_at hl 0 rfl) ?_
  refine va_get (D := (dC, dI)) (ci := 1) (v := .int os) (C := R_Place) (T := T_Place) (N := 5) hx hb hts i_Place hown hK hP 0 rfl rfl 3 (by decide) (hts _ wd_325) (fun _ h9 => h9) rfl d_Place_blockLeft_1 ?_
  refine lv_iconst (v := 1) hx hb d_Place_blockLeft_4 (by decide) ?_
  refine lv_isub hx hb d_Place_blockLeft_5 ?_
  refine lv_topi (fun v5 e5 => ?_)
  have h5 : v5.toInt = S - 1 := by rw [e5]; exact ti_sub hos (ti_k (by decide)) (by omega) (by omega)
  refine lv_istore_n (lv' := [(3, .int v5), (0, .ref ho), (1, .int a1), (2, .int a2)]) hx hb d_Place_blockLeft_6 rfl hl (by decide) rfl (fun ls hl => ?_)
  refine lv_aload_n hx hb d_Place_blockLeft_7 rfl (lv_at hl 1 rfl) ?_
  refine va_get (D := (dC, dI)) (ci := 1) (v := .int oq) (C := R_Place) (T := T_Place) (N := 5) hx hb hts i_Place hown hK hP 0 rfl rfl 4 (by decide) (hts _ wd_327) (fun _ h9 => h9) rfl d_Place_blockLeft_8 ?_
  refine lv_if_ne (tgt := 18) hx hb d_Place_blockLeft_11 (by decide) (fun c11 => ?_) (fun c11 => ?_)
  · skip
    have c11 : ¬ (Q = 0) := fun q => c11 ((ti_eq hoq (ti_k (by decide))).mpr q)
    refine lv_aload_n hx hb d_Place_blockLeft_18 rfl (lv_at hl 1 rfl) ?_
    refine va_get (D := (dC, dI)) (ci := 1) (v := .int oq) (C := R_Place) (T := T_Place) (N := 5) hx hb hts i_Place hown hK hP 0 rfl rfl 4 (by decide) (hts _ wd_327) (fun _ h9 => h9) rfl d_Place_blockLeft_19 ?_
    refine lv_iconst (v := 1) hx hb d_Place_blockLeft_22 (by decide) ?_
    refine lv_icmp_ne (tgt := 32) hx hb d_Place_blockLeft_23 (by decide) (fun c23 => ?_) (fun c23 => ?_)
    · skip
      have c23 : ¬ (Q = 1) := fun q => c23 ((ti_eq hoq (ti_k (by decide))).mpr q)
      refine lv_aload_n hx hb d_Place_blockLeft_32 rfl (lv_at hl 1 rfl) ?_
      refine va_get (D := (dC, dI)) (ci := 1) (v := .int oq) (C := R_Place) (T := T_Place) (N := 5) hx hb hts i_Place hown hK hP 0 rfl rfl 4 (by decide) (hts _ wd_327) (fun _ h9 => h9) rfl d_Place_blockLeft_33 ?_
      refine lv_iconst (v := 2) hx hb d_Place_blockLeft_36 (by decide) ?_
      refine lv_icmp_ne (tgt := 46) hx hb d_Place_blockLeft_37 (by decide) (fun c37 => ?_) (fun c37 => ?_)
      · skip
        have c37 : ¬ (Q = 2) := fun q => c37 ((ti_eq hoq (ti_k (by decide))).mpr q)
        refine lv_iload_n hx hb d_Place_blockLeft_46 rfl (lv_at hl 3 rfl) ?_
        refine lv_istore (lv' := [(4, .int a2), (3, .int v5), (0, .ref ho), (1, .int a1), (2, .int a2)]) hx hb d_Place_blockLeft_47 hl (by decide) rfl (fun ls hl => ?_)
        have mb := mul_b2 (a := M) (b := j) (p := 16) (q := 177) (by omega) (by omega) (by omega) (by omega)
        have mb0 := Int.mul_nonneg (show 0 ≤ M by omega) (show 0 ≤ j by omega)
        refine lv_aload_n hx hb d_Place_blockLeft_49 rfl (lv_at hl 2 rfl) ?_
        refine va_get (D := (dC, dI)) (ci := 1) (v := .int ol) (C := R_Place) (T := T_Place) (N := 5) hx hb hts i_Place hown hK hP 0 rfl rfl 0 (by decide) (hts _ wd_321) (fun _ h9 => h9) rfl d_Place_blockLeft_50 ?_
        refine lv_aload_n hx hb d_Place_blockLeft_53 rfl (lv_at hl 2 rfl) ?_
        refine va_get (D := (dC, dI)) (ci := 1) (v := .int om) (C := R_Place) (T := T_Place) (N := 5) hx hb hts i_Place hown hK hP 0 rfl rfl 2 (by decide) (hts _ wd_323) (fun _ h9 => h9) rfl d_Place_blockLeft_54 ?_
        refine lv_iload hx hb d_Place_blockLeft_57 (lv_at hl 0 rfl) ?_
        refine lv_imul hx hb d_Place_blockLeft_59 ?_
        refine lv_topi (fun v59 e59 => ?_)
        have h59 : v59.toInt = M * j := by rw [e59]; exact ti_mul hom g2 (by omega) (by omega)
        refine lv_iadd hx hb d_Place_blockLeft_60 ?_
        refine lv_topi (fun v60 e60 => ?_)
        have h60 : v60.toInt = L + (M * j) := by rw [e60]; exact ti_add hol h59 (by omega) (by omega)
        have hpost : v60.toInt = L + M * bA S Q i j := by
          rw [h60]
          unfold bA
          rw [if_neg c11, if_neg c23, if_neg c37]
        exact W.iret (v := v60) hx hb hr (fun t ht hW => ⟨⟨v60, (), rfl, hpost, trivial⟩, hS.F ht⟩) hS.2.2 d_Place_blockLeft_61
      · skip
        have c37 : Q = 2 := (ti_eq hoq (ti_k (by decide))).mp c37
        refine lv_iload_n hx hb d_Place_blockLeft_40 rfl (lv_at hl 0 rfl) ?_
        refine lv_iload_n hx hb d_Place_blockLeft_41 rfl (lv_at hl 2 rfl) ?_
        refine lv_isub hx hb d_Place_blockLeft_42 ?_
        refine lv_topi (fun v42 e42 => ?_)
        have h42 : v42.toInt = (S - 1) - i := by rw [e42]; exact ti_sub h5 g1 (by omega) (by omega)
        refine lv_goto (tgt := 47) hx hb d_Place_blockLeft_43 (by decide) ?_
        refine lv_istore (lv' := [(4, .int v42), (3, .int v5), (0, .ref ho), (1, .int a1), (2, .int a2)]) hx hb d_Place_blockLeft_47 hl (by decide) rfl (fun ls hl => ?_)
        have mb := mul_b2 (a := M) (b := ((S - 1) - i)) (p := 16) (q := 177) (by omega) (by omega) (by omega) (by omega)
        have mb0 := Int.mul_nonneg (show 0 ≤ M by omega) (show 0 ≤ ((S - 1) - i) by omega)
        refine lv_aload_n hx hb d_Place_blockLeft_49 rfl (lv_at hl 2 rfl) ?_
        refine va_get (D := (dC, dI)) (ci := 1) (v := .int ol) (C := R_Place) (T := T_Place) (N := 5) hx hb hts i_Place hown hK hP 0 rfl rfl 0 (by decide) (hts _ wd_321) (fun _ h9 => h9) rfl d_Place_blockLeft_50 ?_
        refine lv_aload_n hx hb d_Place_blockLeft_53 rfl (lv_at hl 2 rfl) ?_
        refine va_get (D := (dC, dI)) (ci := 1) (v := .int om) (C := R_Place) (T := T_Place) (N := 5) hx hb hts i_Place hown hK hP 0 rfl rfl 2 (by decide) (hts _ wd_323) (fun _ h9 => h9) rfl d_Place_blockLeft_54 ?_
        refine lv_iload hx hb d_Place_blockLeft_57 (lv_at hl 0 rfl) ?_
        refine lv_imul hx hb d_Place_blockLeft_59 ?_
        refine lv_topi (fun v59 e59 => ?_)
        have h59 : v59.toInt = M * ((S - 1) - i) := by rw [e59]; exact ti_mul hom h42 (by omega) (by omega)
        refine lv_iadd hx hb d_Place_blockLeft_60 ?_
        refine lv_topi (fun v60 e60 => ?_)
        have h60 : v60.toInt = L + (M * ((S - 1) - i)) := by rw [e60]; exact ti_add hol h59 (by omega) (by omega)
        have hpost : v60.toInt = L + M * bA S Q i j := by
          rw [h60]
          unfold bA
          rw [if_neg c11, if_neg c23, if_pos c37]
        exact W.iret (v := v60) hx hb hr (fun t ht hW => ⟨⟨v60, (), rfl, hpost, trivial⟩, hS.F ht⟩) hS.2.2 d_Place_blockLeft_61
    · skip
      have c23 : Q = 1 := (ti_eq hoq (ti_k (by decide))).mp c23
      refine lv_iload_n hx hb d_Place_blockLeft_26 rfl (lv_at hl 0 rfl) ?_
      refine lv_iload_n hx hb d_Place_blockLeft_27 rfl (lv_at hl 3 rfl) ?_
      refine lv_isub hx hb d_Place_blockLeft_28 ?_
      refine lv_topi (fun v28 e28 => ?_)
      have h28 : v28.toInt = (S - 1) - j := by rw [e28]; exact ti_sub h5 g2 (by omega) (by omega)
      refine lv_goto (tgt := 47) hx hb d_Place_blockLeft_29 (by decide) ?_
      refine lv_istore (lv' := [(4, .int v28), (3, .int v5), (0, .ref ho), (1, .int a1), (2, .int a2)]) hx hb d_Place_blockLeft_47 hl (by decide) rfl (fun ls hl => ?_)
      have mb := mul_b2 (a := M) (b := ((S - 1) - j)) (p := 16) (q := 177) (by omega) (by omega) (by omega) (by omega)
      have mb0 := Int.mul_nonneg (show 0 ≤ M by omega) (show 0 ≤ ((S - 1) - j) by omega)
      refine lv_aload_n hx hb d_Place_blockLeft_49 rfl (lv_at hl 2 rfl) ?_
      refine va_get (D := (dC, dI)) (ci := 1) (v := .int ol) (C := R_Place) (T := T_Place) (N := 5) hx hb hts i_Place hown hK hP 0 rfl rfl 0 (by decide) (hts _ wd_321) (fun _ h9 => h9) rfl d_Place_blockLeft_50 ?_
      refine lv_aload_n hx hb d_Place_blockLeft_53 rfl (lv_at hl 2 rfl) ?_
      refine va_get (D := (dC, dI)) (ci := 1) (v := .int om) (C := R_Place) (T := T_Place) (N := 5) hx hb hts i_Place hown hK hP 0 rfl rfl 2 (by decide) (hts _ wd_323) (fun _ h9 => h9) rfl d_Place_blockLeft_54 ?_
      refine lv_iload hx hb d_Place_blockLeft_57 (lv_at hl 0 rfl) ?_
      refine lv_imul hx hb d_Place_blockLeft_59 ?_
      refine lv_topi (fun v59 e59 => ?_)
      have h59 : v59.toInt = M * ((S - 1) - j) := by rw [e59]; exact ti_mul hom h28 (by omega) (by omega)
      refine lv_iadd hx hb d_Place_blockLeft_60 ?_
      refine lv_topi (fun v60 e60 => ?_)
      have h60 : v60.toInt = L + (M * ((S - 1) - j)) := by rw [e60]; exact ti_add hol h59 (by omega) (by omega)
      have hpost : v60.toInt = L + M * bA S Q i j := by
        rw [h60]
        unfold bA
        rw [if_neg c11, if_pos c23]
      exact W.iret (v := v60) hx hb hr (fun t ht hW => ⟨⟨v60, (), rfl, hpost, trivial⟩, hS.F ht⟩) hS.2.2 d_Place_blockLeft_61
  · skip
    have c11 : Q = 0 := (ti_eq hoq (ti_k (by decide))).mp c11
    refine lv_iload_n hx hb d_Place_blockLeft_14 rfl (lv_at hl 2 rfl) ?_
    refine lv_goto (tgt := 47) hx hb d_Place_blockLeft_15 (by decide) ?_
    refine lv_istore (lv' := [(4, .int a1), (3, .int v5), (0, .ref ho), (1, .int a1), (2, .int a2)]) hx hb d_Place_blockLeft_47 hl (by decide) rfl (fun ls hl => ?_)
    have mb := mul_b2 (a := M) (b := i) (p := 16) (q := 177) (by omega) (by omega) (by omega) (by omega)
    have mb0 := Int.mul_nonneg (show 0 ≤ M by omega) (show 0 ≤ i by omega)
    refine lv_aload_n hx hb d_Place_blockLeft_49 rfl (lv_at hl 2 rfl) ?_
    refine va_get (D := (dC, dI)) (ci := 1) (v := .int ol) (C := R_Place) (T := T_Place) (N := 5) hx hb hts i_Place hown hK hP 0 rfl rfl 0 (by decide) (hts _ wd_321) (fun _ h9 => h9) rfl d_Place_blockLeft_50 ?_
    refine lv_aload_n hx hb d_Place_blockLeft_53 rfl (lv_at hl 2 rfl) ?_
    refine va_get (D := (dC, dI)) (ci := 1) (v := .int om) (C := R_Place) (T := T_Place) (N := 5) hx hb hts i_Place hown hK hP 0 rfl rfl 2 (by decide) (hts _ wd_323) (fun _ h9 => h9) rfl d_Place_blockLeft_54 ?_
    refine lv_iload hx hb d_Place_blockLeft_57 (lv_at hl 0 rfl) ?_
    refine lv_imul hx hb d_Place_blockLeft_59 ?_
    refine lv_topi (fun v59 e59 => ?_)
    have h59 : v59.toInt = M * i := by rw [e59]; exact ti_mul hom g1 (by omega) (by omega)
    refine lv_iadd hx hb d_Place_blockLeft_60 ?_
    refine lv_topi (fun v60 e60 => ?_)
    have h60 : v60.toInt = L + (M * i) := by rw [e60]; exact ti_add hol h59 (by omega) (by omega)
    have hpost : v60.toInt = L + M * bA S Q i j := by
      rw [h60]
      unfold bA
      rw [if_pos c11]
    exact W.iret (v := v60) hx hb hr (fun t ht hW => ⟨⟨v60, (), rfl, hpost, trivial⟩, hS.F ht⟩) hS.2.2 d_Place_blockLeft_61

set_option maxHeartbeats 4000000 in
set_option maxRecDepth 100000 in
theorem c_blockTop (l : Launch) (dC : Nat → ClassId) (dI : Nat → Nat → Nat) (ho : Nat) (ol ot om os oq : Int32) (L T M S Q : Int) (hol : ol.toInt = L) (hot : ot.toInt = T) (hom : om.toInt = M) (hos : os.toInt = S) (hoq : oq.toInt = Q) (a1 a2 : Int32) (i j : Int) (g1 : a1.toInt = i) (g2 : a2.toInt = j) (i0 : 0 ≤ i) (i1 : i < S) (j0 : 0 ≤ j) (j1 : j < S) (hS7 : S ≤ 177) (hM0 : 1 ≤ M) (hM1 : M ≤ 16) (hL0 : 0 ≤ L) (hL1 : L ≤ 512) (hT0 : 0 ≤ T) (hT1 : T ≤ 512) : Met l y_Place_blockTop (.code y_Place_blockTop b_Place_blockTop 5 (some .int) :: allw) ({ frames := 0, cells := 0, slots := 0, locals := 0 }) (va_Pc [.ref ho, .int a1, .int a2] (ro_B (dC, dI) vwCl [(ho, .inr (1, [.int ol, .int ot, .int om, .int os, .int oq]))] [])) (va_Qi (fun (r : Int32) (_ : Unit) => r.toInt = T + M * bB S Q i j) (fun _ _ => True) (fun _ => False)) 0 0 (fun _ => False) := by
  refine Met.ofW (cc := b_Place_blockTop) (maxL := 5) (ret := (some .int)) (by decide) rfl ?_
  intro p e s m args below meth c s₁ B hml hv
  obtain ⟨rfl, hP, hK⟩ := hv
  have hx := B.exec
  have hb := B.bytes
  have hr := B.returns
  have hts : ∀ w ∈ allw, w.before _ s = true := fun w h => atoms_spec (ws := .code y_Place_blockTop b_Place_blockTop 5 (some .int) :: allw) B.pre w (List.mem_cons_of_mem _ h)
  have hown : s.vm.findClass R_Place = some m.cls := findClass_of_methodNamed B.named
  have hlocks := B.notSynchronized
  have hS : va_S (fun _ => False) s.heap s.heap [] := va_S.rf
  have hP : va_P (dC, dI) vwCl [(ho, .inr (1, [.int ol, .int ot, .int om, .int os, .int oq]))] s.heap := hP
  have hl := lv_entry ([.ref ho, .int a1, .int a2]) (n := 5) (Nat.le_of_ble_eq_true rfl)
  rw [lg_entry_eq]
  generalize (lg_sl ([.ref ho, .int a1, .int a2]) ++ List.replicate (5 - (lg_sl ([.ref ho, .int a1, .int a2])).length) Slot.unset).toArray = ls at hl ⊢
  have hl : lv_has ls 5 [(0, .ref ho), (1, .int a1), (2, .int a2)] := hl
  refine lv_aload_n hx hb d_Place_blockTop_0 rfl (lv_at hl 0 rfl) ?_
  refine va_get (D := (dC, dI)) (ci := 1) (v := .int os) (C := R_Place) (T := T_Place) (N := 5) hx hb hts i_Place hown hK hP 0 rfl rfl 3 (by decide) (hts _ wd_325) (fun _ h9 => h9) rfl d_Place_blockTop_1 ?_
  refine lv_iconst (v := 1) hx hb d_Place_blockTop_4 (by decide) ?_
  refine lv_isub hx hb d_Place_blockTop_5 ?_
  refine lv_topi (fun v5 e5 => ?_)
  have h5 : v5.toInt = S - 1 := by rw [e5]; exact ti_sub hos (ti_k (by decide)) (by omega) (by omega)
  refine lv_istore_n (lv' := [(3, .int v5), (0, .ref ho), (1, .int a1), (2, .int a2)]) hx hb d_Place_blockTop_6 rfl hl (by decide) rfl (fun ls hl => ?_)
  refine lv_aload_n hx hb d_Place_blockTop_7 rfl (lv_at hl 1 rfl) ?_
  refine va_get (D := (dC, dI)) (ci := 1) (v := .int oq) (C := R_Place) (T := T_Place) (N := 5) hx hb hts i_Place hown hK hP 0 rfl rfl 4 (by decide) (hts _ wd_327) (fun _ h9 => h9) rfl d_Place_blockTop_8 ?_
  refine lv_if_ne (tgt := 18) hx hb d_Place_blockTop_11 (by decide) (fun c11 => ?_) (fun c11 => ?_)
  · skip
    have c11 : ¬ (Q = 0) := fun q => c11 ((ti_eq hoq (ti_k (by decide))).mpr q)
    refine lv_aload_n hx hb d_Place_blockTop_18 rfl (lv_at hl 1 rfl) ?_
    refine va_get (D := (dC, dI)) (ci := 1) (v := .int oq) (C := R_Place) (T := T_Place) (N := 5) hx hb hts i_Place hown hK hP 0 rfl rfl 4 (by decide) (hts _ wd_327) (fun _ h9 => h9) rfl d_Place_blockTop_19 ?_
    refine lv_iconst (v := 1) hx hb d_Place_blockTop_22 (by decide) ?_
    refine lv_icmp_ne (tgt := 30) hx hb d_Place_blockTop_23 (by decide) (fun c23 => ?_) (fun c23 => ?_)
    · skip
      have c23 : ¬ (Q = 1) := fun q => c23 ((ti_eq hoq (ti_k (by decide))).mpr q)
      refine lv_aload_n hx hb d_Place_blockTop_30 rfl (lv_at hl 1 rfl) ?_
      refine va_get (D := (dC, dI)) (ci := 1) (v := .int oq) (C := R_Place) (T := T_Place) (N := 5) hx hb hts i_Place hown hK hP 0 rfl rfl 4 (by decide) (hts _ wd_327) (fun _ h9 => h9) rfl d_Place_blockTop_31 ?_
      refine lv_iconst (v := 2) hx hb d_Place_blockTop_34 (by decide) ?_
      refine lv_icmp_ne (tgt := 44) hx hb d_Place_blockTop_35 (by decide) (fun c35 => ?_) (fun c35 => ?_)
      · skip
        have c35 : ¬ (Q = 2) := fun q => c35 ((ti_eq hoq (ti_k (by decide))).mpr q)
        refine lv_iload_n hx hb d_Place_blockTop_44 rfl (lv_at hl 0 rfl) ?_
        refine lv_iload_n hx hb d_Place_blockTop_45 rfl (lv_at hl 2 rfl) ?_
        refine lv_isub hx hb d_Place_blockTop_46 ?_
        refine lv_topi (fun v46 e46 => ?_)
        have h46 : v46.toInt = (S - 1) - i := by rw [e46]; exact ti_sub h5 g1 (by omega) (by omega)
        refine lv_istore (lv' := [(4, .int v46), (3, .int v5), (0, .ref ho), (1, .int a1), (2, .int a2)]) hx hb d_Place_blockTop_47 hl (by decide) rfl (fun ls hl => ?_)
        have mb := mul_b2 (a := M) (b := ((S - 1) - i)) (p := 16) (q := 177) (by omega) (by omega) (by omega) (by omega)
        have mb0 := Int.mul_nonneg (show 0 ≤ M by omega) (show 0 ≤ ((S - 1) - i) by omega)
        refine lv_aload_n hx hb d_Place_blockTop_49 rfl (lv_at hl 2 rfl) ?_
        refine va_get (D := (dC, dI)) (ci := 1) (v := .int ot) (C := R_Place) (T := T_Place) (N := 5) hx hb hts i_Place hown hK hP 0 rfl rfl 1 (by decide) (hts _ wd_322) (fun _ h9 => h9) rfl d_Place_blockTop_50 ?_
        refine lv_aload_n hx hb d_Place_blockTop_53 rfl (lv_at hl 2 rfl) ?_
        refine va_get (D := (dC, dI)) (ci := 1) (v := .int om) (C := R_Place) (T := T_Place) (N := 5) hx hb hts i_Place hown hK hP 0 rfl rfl 2 (by decide) (hts _ wd_323) (fun _ h9 => h9) rfl d_Place_blockTop_54 ?_
        refine lv_iload hx hb d_Place_blockTop_57 (lv_at hl 0 rfl) ?_
        refine lv_imul hx hb d_Place_blockTop_59 ?_
        refine lv_topi (fun v59 e59 => ?_)
        have h59 : v59.toInt = M * ((S - 1) - i) := by rw [e59]; exact ti_mul hom h46 (by omega) (by omega)
        refine lv_iadd hx hb d_Place_blockTop_60 ?_
        refine lv_topi (fun v60 e60 => ?_)
        have h60 : v60.toInt = T + (M * ((S - 1) - i)) := by rw [e60]; exact ti_add hot h59 (by omega) (by omega)
        have hpost : v60.toInt = T + M * bB S Q i j := by
          rw [h60]
          unfold bB
          rw [if_neg c11, if_neg c23, if_neg c35]
        exact W.iret (v := v60) hx hb hr (fun t ht hW => ⟨⟨v60, (), rfl, hpost, trivial⟩, hS.F ht⟩) hS.2.2 d_Place_blockTop_61
      · skip
        have c35 : Q = 2 := (ti_eq hoq (ti_k (by decide))).mp c35
        refine lv_iload_n hx hb d_Place_blockTop_38 rfl (lv_at hl 0 rfl) ?_
        refine lv_iload_n hx hb d_Place_blockTop_39 rfl (lv_at hl 3 rfl) ?_
        refine lv_isub hx hb d_Place_blockTop_40 ?_
        refine lv_topi (fun v40 e40 => ?_)
        have h40 : v40.toInt = (S - 1) - j := by rw [e40]; exact ti_sub h5 g2 (by omega) (by omega)
        refine lv_goto (tgt := 47) hx hb d_Place_blockTop_41 (by decide) ?_
        refine lv_istore (lv' := [(4, .int v40), (3, .int v5), (0, .ref ho), (1, .int a1), (2, .int a2)]) hx hb d_Place_blockTop_47 hl (by decide) rfl (fun ls hl => ?_)
        have mb := mul_b2 (a := M) (b := ((S - 1) - j)) (p := 16) (q := 177) (by omega) (by omega) (by omega) (by omega)
        have mb0 := Int.mul_nonneg (show 0 ≤ M by omega) (show 0 ≤ ((S - 1) - j) by omega)
        refine lv_aload_n hx hb d_Place_blockTop_49 rfl (lv_at hl 2 rfl) ?_
        refine va_get (D := (dC, dI)) (ci := 1) (v := .int ot) (C := R_Place) (T := T_Place) (N := 5) hx hb hts i_Place hown hK hP 0 rfl rfl 1 (by decide) (hts _ wd_322) (fun _ h9 => h9) rfl d_Place_blockTop_50 ?_
        refine lv_aload_n hx hb d_Place_blockTop_53 rfl (lv_at hl 2 rfl) ?_
        refine va_get (D := (dC, dI)) (ci := 1) (v := .int om) (C := R_Place) (T := T_Place) (N := 5) hx hb hts i_Place hown hK hP 0 rfl rfl 2 (by decide) (hts _ wd_323) (fun _ h9 => h9) rfl d_Place_blockTop_54 ?_
        refine lv_iload hx hb d_Place_blockTop_57 (lv_at hl 0 rfl) ?_
        refine lv_imul hx hb d_Place_blockTop_59 ?_
        refine lv_topi (fun v59 e59 => ?_)
        have h59 : v59.toInt = M * ((S - 1) - j) := by rw [e59]; exact ti_mul hom h40 (by omega) (by omega)
        refine lv_iadd hx hb d_Place_blockTop_60 ?_
        refine lv_topi (fun v60 e60 => ?_)
        have h60 : v60.toInt = T + (M * ((S - 1) - j)) := by rw [e60]; exact ti_add hot h59 (by omega) (by omega)
        have hpost : v60.toInt = T + M * bB S Q i j := by
          rw [h60]
          unfold bB
          rw [if_neg c11, if_neg c23, if_pos c35]
        exact W.iret (v := v60) hx hb hr (fun t ht hW => ⟨⟨v60, (), rfl, hpost, trivial⟩, hS.F ht⟩) hS.2.2 d_Place_blockTop_61
    · skip
      have c23 : Q = 1 := (ti_eq hoq (ti_k (by decide))).mp c23
      refine lv_iload_n hx hb d_Place_blockTop_26 rfl (lv_at hl 2 rfl) ?_
      refine lv_goto (tgt := 47) hx hb d_Place_blockTop_27 (by decide) ?_
      refine lv_istore (lv' := [(4, .int a1), (3, .int v5), (0, .ref ho), (1, .int a1), (2, .int a2)]) hx hb d_Place_blockTop_47 hl (by decide) rfl (fun ls hl => ?_)
      have mb := mul_b2 (a := M) (b := i) (p := 16) (q := 177) (by omega) (by omega) (by omega) (by omega)
      have mb0 := Int.mul_nonneg (show 0 ≤ M by omega) (show 0 ≤ i by omega)
      refine lv_aload_n hx hb d_Place_blockTop_49 rfl (lv_at hl 2 rfl) ?_
      refine va_get (D := (dC, dI)) (ci := 1) (v := .int ot) (C := R_Place) (T := T_Place) (N := 5) hx hb hts i_Place hown hK hP 0 rfl rfl 1 (by decide) (hts _ wd_322) (fun _ h9 => h9) rfl d_Place_blockTop_50 ?_
      refine lv_aload_n hx hb d_Place_blockTop_53 rfl (lv_at hl 2 rfl) ?_
      refine va_get (D := (dC, dI)) (ci := 1) (v := .int om) (C := R_Place) (T := T_Place) (N := 5) hx hb hts i_Place hown hK hP 0 rfl rfl 2 (by decide) (hts _ wd_323) (fun _ h9 => h9) rfl d_Place_blockTop_54 ?_
      refine lv_iload hx hb d_Place_blockTop_57 (lv_at hl 0 rfl) ?_
      refine lv_imul hx hb d_Place_blockTop_59 ?_
      refine lv_topi (fun v59 e59 => ?_)
      have h59 : v59.toInt = M * i := by rw [e59]; exact ti_mul hom g1 (by omega) (by omega)
      refine lv_iadd hx hb d_Place_blockTop_60 ?_
      refine lv_topi (fun v60 e60 => ?_)
      have h60 : v60.toInt = T + (M * i) := by rw [e60]; exact ti_add hot h59 (by omega) (by omega)
      have hpost : v60.toInt = T + M * bB S Q i j := by
        rw [h60]
        unfold bB
        rw [if_neg c11, if_pos c23]
      exact W.iret (v := v60) hx hb hr (fun t ht hW => ⟨⟨v60, (), rfl, hpost, trivial⟩, hS.F ht⟩) hS.2.2 d_Place_blockTop_61
  · skip
    have c11 : Q = 0 := (ti_eq hoq (ti_k (by decide))).mp c11
    refine lv_iload_n hx hb d_Place_blockTop_14 rfl (lv_at hl 3 rfl) ?_
    refine lv_goto (tgt := 47) hx hb d_Place_blockTop_15 (by decide) ?_
    refine lv_istore (lv' := [(4, .int a2), (3, .int v5), (0, .ref ho), (1, .int a1), (2, .int a2)]) hx hb d_Place_blockTop_47 hl (by decide) rfl (fun ls hl => ?_)
    have mb := mul_b2 (a := M) (b := j) (p := 16) (q := 177) (by omega) (by omega) (by omega) (by omega)
    have mb0 := Int.mul_nonneg (show 0 ≤ M by omega) (show 0 ≤ j by omega)
    refine lv_aload_n hx hb d_Place_blockTop_49 rfl (lv_at hl 2 rfl) ?_
    refine va_get (D := (dC, dI)) (ci := 1) (v := .int ot) (C := R_Place) (T := T_Place) (N := 5) hx hb hts i_Place hown hK hP 0 rfl rfl 1 (by decide) (hts _ wd_322) (fun _ h9 => h9) rfl d_Place_blockTop_50 ?_
    refine lv_aload_n hx hb d_Place_blockTop_53 rfl (lv_at hl 2 rfl) ?_
    refine va_get (D := (dC, dI)) (ci := 1) (v := .int om) (C := R_Place) (T := T_Place) (N := 5) hx hb hts i_Place hown hK hP 0 rfl rfl 2 (by decide) (hts _ wd_323) (fun _ h9 => h9) rfl d_Place_blockTop_54 ?_
    refine lv_iload hx hb d_Place_blockTop_57 (lv_at hl 0 rfl) ?_
    refine lv_imul hx hb d_Place_blockTop_59 ?_
    refine lv_topi (fun v59 e59 => ?_)
    have h59 : v59.toInt = M * j := by rw [e59]; exact ti_mul hom g2 (by omega) (by omega)
    refine lv_iadd hx hb d_Place_blockTop_60 ?_
    refine lv_topi (fun v60 e60 => ?_)
    have h60 : v60.toInt = T + (M * j) := by rw [e60]; exact ti_add hot h59 (by omega) (by omega)
    have hpost : v60.toInt = T + M * bB S Q i j := by
      rw [h60]
      unfold bB
      rw [if_pos c11]
    exact W.iret (v := v60) hx hb hr (fun t ht hW => ⟨⟨v60, (), rfl, hpost, trivial⟩, hS.F ht⟩) hS.2.2 d_Place_blockTop_61
end
section
set_option maxHeartbeats 4000000 in
set_option maxRecDepth 100000 in
theorem c_isBetter (l : Launch) (dC : Nat → ClassId) (dI : Nat → Nat → Nat) (al ak ar : Nat) (cK cR : ClassId) (cnt : Int32) (kf wf : Nat → Int32) (nc : Int) (hcnt : cnt.toInt = nc) (hn0 : 0 ≤ nc) (hn1 : nc ≤ 300) (a1 a2 : Int32) (o t : Int) (g1 : a1.toInt = o) (g2 : a2.toInt = t) (o0 : 0 ≤ o) (o1 : o < nc) (t0 : 0 ≤ t) (t1 : t < nc) : Met l y_List_isBetter (.code y_List_isBetter b_List_isBetter 3 (some .boolean) :: allw) ({ frames := 0, cells := 0, slots := 0, locals := 0 }) (va_Pc [.ref al, .int a1, .int a2] (ro_B (dC, dI) vwCl [(al, .inr (2, [.ref ak, .ref ar, .int cnt])), (ak, .inl (cK, 300, .inl kf)), (ar, .inl (cR, 300, .inl wf))] [(cK, .int), (cR, .int)])) (va_Qi (fun (r : Int32) (_ : Unit) => isB r (better wf o t)) (fun _ _ => True) (fun _ => False)) 0 0 (fun _ => False) := by
  refine Met.ofW (cc := b_List_isBetter) (maxL := 3) (ret := (some .boolean)) (by decide) rfl ?_
  intro p e s m args below meth c s₁ B hml hv
  obtain ⟨rfl, hP, hK⟩ := hv
  have hx := B.exec
  have hb := B.bytes
  have hr := B.returns
  have hts : ∀ w ∈ allw, w.before _ s = true := fun w h => atoms_spec (ws := .code y_List_isBetter b_List_isBetter 3 (some .boolean) :: allw) B.pre w (List.mem_cons_of_mem _ h)
  have hown : s.vm.findClass R_List = some m.cls := findClass_of_methodNamed B.named
  have hlocks := B.notSynchronized
  have hS : va_S (fun _ => False) s.heap s.heap [] := va_S.rf
  have hP : va_P (dC, dI) vwCl [(al, .inr (2, [.ref ak, .ref ar, .int cnt])), (ak, .inl (cK, 300, .inl kf)), (ar, .inl (cR, 300, .inl wf))] s.heap := hP
  have hl := lv_entry ([.ref al, .int a1, .int a2]) (n := 3) (Nat.le_of_ble_eq_true rfl)
  rw [lg_entry_eq]
  generalize (lg_sl ([.ref al, .int a1, .int a2]) ++ List.replicate (3 - (lg_sl ([.ref al, .int a1, .int a2])).length) Slot.unset).toArray = ls at hl ⊢
  have hl : lv_has ls 3 [(0, .ref al), (1, .int a1), (2, .int a2)] := hl
  refine lv_aload_n hx hb d_List_isBetter_0 rfl (lv_at hl 0 rfl) ?_
  refine va_get (D := (dC, dI)) (ci := 2) (v := .ref ar) (C := R_List) (T := T_List) (N := 3) hx hb hts i_List hown hK hP 0 rfl rfl 1 (by decide) (hts _ wd_67) (fun _ h9 => h9) rfl d_List_isBetter_1 ?_
  refine lv_iload_n hx hb d_List_isBetter_4 rfl (lv_at hl 1 rfl) ?_
  have in5 : vp_in a1 300 := vi_in g1 (by omega) (by omega)
  refine va_iald hx hb hK hP 2 1 rfl rfl in5 d_List_isBetter_5 ?_
  refine lv_topi (fun v5 e5 => ?_)
  have e5 : v5 = wf (o).toNat := by rw [e5, vi_cl g1]
  refine lv_aload_n hx hb d_List_isBetter_6 rfl (lv_at hl 0 rfl) ?_
  refine va_get (D := (dC, dI)) (ci := 2) (v := .ref ar) (C := R_List) (T := T_List) (N := 3) hx hb hts i_List hown hK hP 0 rfl rfl 1 (by decide) (hts _ wd_67) (fun _ h9 => h9) rfl d_List_isBetter_7 ?_
  refine lv_iload_n hx hb d_List_isBetter_10 rfl (lv_at hl 2 rfl) ?_
  have in11 : vp_in a2 300 := vi_in g2 (by omega) (by omega)
  refine va_iald hx hb hK hP 2 1 rfl rfl in11 d_List_isBetter_11 ?_
  refine lv_topi (fun v11 e11 => ?_)
  have e11 : v11 = wf (t).toNat := by rw [e11, vi_cl g2]
  refine lv_icmp_lt (tgt := 35) hx hb d_List_isBetter_12 (by decide) (fun c12 => ?_) (fun c12 => ?_)
  · skip
    have c12 : (wf o.toNat).toInt < (wf t.toNat).toInt := (ti_lt (congrArg Int32.toInt e5) (congrArg Int32.toInt e11)).mp c12
    refine lv_iconst (v := 1) hx hb d_List_isBetter_35 (by decide) ?_
    refine lv_goto (tgt := 40) hx hb d_List_isBetter_36 (by decide) ?_
    have hpost : isB 1 (better wf o t) := by
      refine Or.inl ⟨rfl, ?_⟩
      unfold better
      omega
    exact W.zret (v := 1) hx hb hr (by decide) (fun t ht hW => ⟨⟨1, (), rfl, hpost, trivial⟩, hS.F ht⟩) hS.2.2 d_List_isBetter_40
  · skip
    have c12 : ¬ ((wf o.toNat).toInt < (wf t.toNat).toInt) := fun q => c12 ((ti_lt (congrArg Int32.toInt e5) (congrArg Int32.toInt e11)).mpr q)
    refine lv_aload_n hx hb d_List_isBetter_15 rfl (lv_at hl 0 rfl) ?_
    refine va_get (D := (dC, dI)) (ci := 2) (v := .ref ar) (C := R_List) (T := T_List) (N := 3) hx hb hts i_List hown hK hP 0 rfl rfl 1 (by decide) (hts _ wd_67) (fun _ h9 => h9) rfl d_List_isBetter_16 ?_
    refine lv_iload_n hx hb d_List_isBetter_19 rfl (lv_at hl 1 rfl) ?_
    have in20 : vp_in a1 300 := vi_in g1 (by omega) (by omega)
    refine va_iald hx hb hK hP 2 1 rfl rfl in20 d_List_isBetter_20 ?_
    refine lv_topi (fun v20 e20 => ?_)
    have e20 : v20 = wf (o).toNat := by rw [e20, vi_cl g1]
    refine lv_aload_n hx hb d_List_isBetter_21 rfl (lv_at hl 0 rfl) ?_
    refine va_get (D := (dC, dI)) (ci := 2) (v := .ref ar) (C := R_List) (T := T_List) (N := 3) hx hb hts i_List hown hK hP 0 rfl rfl 1 (by decide) (hts _ wd_67) (fun _ h9 => h9) rfl d_List_isBetter_22 ?_
    refine lv_iload_n hx hb d_List_isBetter_25 rfl (lv_at hl 2 rfl) ?_
    have in26 : vp_in a2 300 := vi_in g2 (by omega) (by omega)
    refine va_iald hx hb hK hP 2 1 rfl rfl in26 d_List_isBetter_26 ?_
    refine lv_topi (fun v26 e26 => ?_)
    have e26 : v26 = wf (t).toNat := by rw [e26, vi_cl g2]
    refine lv_icmp_ne (tgt := 39) hx hb d_List_isBetter_27 (by decide) (fun c27 => ?_) (fun c27 => ?_)
    · skip
      have c27 : ¬ ((wf o.toNat).toInt = (wf t.toNat).toInt) := fun q => c27 ((ti_eq (congrArg Int32.toInt e20) (congrArg Int32.toInt e26)).mpr q)
      refine lv_iconst (v := 0) hx hb d_List_isBetter_39 (by decide) ?_
      have hpost : isB 0 (better wf o t) := by
        refine Or.inr ⟨rfl, ?_⟩
        unfold better
        omega
      exact W.zret (v := 0) hx hb hr (by decide) (fun t ht hW => ⟨⟨0, (), rfl, hpost, trivial⟩, hS.F ht⟩) hS.2.2 d_List_isBetter_40
    · skip
      have c27 : (wf o.toNat).toInt = (wf t.toNat).toInt := (ti_eq (congrArg Int32.toInt e20) (congrArg Int32.toInt e26)).mp c27
      refine lv_iload_n hx hb d_List_isBetter_30 rfl (lv_at hl 1 rfl) ?_
      refine lv_iload_n hx hb d_List_isBetter_31 rfl (lv_at hl 2 rfl) ?_
      refine lv_icmp_ge (tgt := 39) hx hb d_List_isBetter_32 (by decide) (fun c32 => ?_) (fun c32 => ?_)
      · skip
        have c32 : t ≤ o := (ti_le g2 g1).mp c32
        refine lv_iconst (v := 0) hx hb d_List_isBetter_39 (by decide) ?_
        have hpost : isB 0 (better wf o t) := by
          refine Or.inr ⟨rfl, ?_⟩
          unfold better
          omega
        exact W.zret (v := 0) hx hb hr (by decide) (fun t ht hW => ⟨⟨0, (), rfl, hpost, trivial⟩, hS.F ht⟩) hS.2.2 d_List_isBetter_40
      · skip
        have c32 : ¬ (t ≤ o) := fun q => c32 ((ti_le g2 g1).mpr q)
        refine lv_iconst (v := 1) hx hb d_List_isBetter_35 (by decide) ?_
        refine lv_goto (tgt := 40) hx hb d_List_isBetter_36 (by decide) ?_
        have hpost : isB 1 (better wf o t) := by
          refine Or.inl ⟨rfl, ?_⟩
          unfold better
          omega
        exact W.zret (v := 1) hx hb hr (by decide) (fun t ht hW => ⟨⟨1, (), rfl, hpost, trivial⟩, hS.F ht⟩) hS.2.2 d_List_isBetter_40

set_option maxHeartbeats 4000000 in
set_option maxRecDepth 100000 in
theorem c_add (l : Launch) (dC : Nat → ClassId) (dI : Nat → Nat → Nat) (sz : Nat) (al ak ar : Nat) (cK cR : ClassId) (cnt : Int32) (kf wf : Nat → Int32) (nc : Int) (hcnt : cnt.toInt = nc) (hn0 : 0 ≤ nc) (hn1 : nc ≤ 300) (a1 a2 : Int32) (K X : Int) (g1 : a1.toInt = K) (g2 : a2.toInt = X) : Met l y_List_add (.code y_List_add b_List_add 4 (some .boolean) :: allw) ({ frames := 0, cells := 0, slots := 0, locals := 0 }) (va_Pc [.ref al, .int a1, .int a2] (rw_B (dC, dI) vwCl [(al, .inr (2, [.ref ak, .ref ar, .int cnt])), (ak, .inl (cK, 300, .inl kf)), (ar, .inl (cR, 300, .inl wf))] [(cK, .int), (cR, .int)] sz)) (va_Qi (fun (r : Int32) (u : Int32 × (Nat → Int32) × (Nat → Int32)) => (nc = 300 ∧ r = 0 ∧ u.1 = cnt ∧ u.2.1 = kf ∧ u.2.2 = wf) ∨ (nc < 300 ∧ r = 1 ∧ u.1.toInt = nc + 1 ∧ isIns nc a1 a2 kf wf u.2.1 u.2.2)) (fun u t => rw_E (dC, dI) vwCl [(al, .inr (2, [.ref ak, .ref ar, .int u.1])), (ak, .inl (cK, 300, .inl u.2.1)), (ar, .inl (cR, 300, .inl u.2.2))] [(cK, .int), (cR, .int)] (va_A [(al, .inr (2, [.ref ak, .ref ar, .int cnt])), (ak, .inl (cK, 300, .inl kf)), (ar, .inl (cR, 300, .inl wf))] sz) t) (va_A [(al, .inr (2, [.ref ak, .ref ar, .int cnt])), (ak, .inl (cK, 300, .inl kf)), (ar, .inl (cR, 300, .inl wf))] sz)) 0 0 (va_A [(al, .inr (2, [.ref ak, .ref ar, .int cnt])), (ak, .inl (cK, 300, .inl kf)), (ar, .inl (cR, 300, .inl wf))] sz) := by
  refine Met.ofW (cc := b_List_add) (maxL := 4) (ret := (some .boolean)) (by decide) rfl ?_
  intro p e s m args below meth c s₁ B hml hv
  obtain ⟨rfl, hsz, hP, hK, hD0⟩ := hv
  have hx := B.exec
  have hb := B.bytes
  have hr := B.returns
  have hts : ∀ w ∈ allw, w.before _ s = true := fun w h => atoms_spec (ws := .code y_List_add b_List_add 4 (some .boolean) :: allw) B.pre w (List.mem_cons_of_mem _ h)
  have hown : s.vm.findClass R_List = some m.cls := findClass_of_methodNamed B.named
  have hlocks := B.notSynchronized
  subst hsz
  have hD := hD0.self (sz := s.heap.size)
  generalize hAe : va_A [(al, .inr (2, [.ref ak, .ref ar, .int cnt])), (ak, .inl (cK, 300, .inl kf)), (ar, .inl (cR, 300, .inl wf))] s.heap.size = A at hD ⊢
  have hA : ∀ q : Nat, s.heap.size ≤ q → A q := fun q h => by rw [← hAe]; exact Or.inr h
  have hS : va_S A s.heap s.heap [] := va_S.rf
  have hP : va_P (dC, dI) vwCl [(al, .inr (2, [.ref ak, .ref ar, .int cnt])), (ak, .inl (cK, 300, .inl kf)), (ar, .inl (cR, 300, .inl wf))] s.heap := hP
  have hl := lv_entry ([.ref al, .int a1, .int a2]) (n := 4) (Nat.le_of_ble_eq_true rfl)
  rw [lg_entry_eq]
  generalize (lg_sl ([.ref al, .int a1, .int a2]) ++ List.replicate (4 - (lg_sl ([.ref al, .int a1, .int a2])).length) Slot.unset).toArray = ls at hl ⊢
  have hl : lv_has ls 4 [(0, .ref al), (1, .int a1), (2, .int a2)] := hl
  refine lv_aload_n hx hb d_List_add_0 rfl (lv_at hl 0 rfl) ?_
  refine va_get (D := (dC, dI)) (ci := 2) (v := .int cnt) (C := R_List) (T := T_List) (N := 3) hx hb hts i_List hown hK hP 0 rfl rfl 2 (by decide) (hts _ wd_69) (fun _ h9 => h9) rfl d_List_add_1 ?_
  refine lv_if_lt (tgt := 17) hx hb d_List_add_4 (by decide) (fun c4 => ?_) (fun c4 => ?_)
  · skip
    have c4 : nc < 0 := (ti_lt hcnt (ti_k (by decide))).mp c4
    refine lv_iconst (v := 0) hx hb d_List_add_17 (by decide) ?_
    have hpost : (nc = 300 ∧ (0 : Int32) = 0 ∧ cnt = cnt ∧ kf = kf ∧ wf = wf) ∨ (nc < 300 ∧ (0 : Int32) = 1 ∧ cnt.toInt = nc + 1 ∧ isIns nc a1 a2 kf wf kf wf) := by
      exact Or.inl ⟨by omega, rfl, rfl, rfl, rfl⟩
    have hP9 := hP.sub (ws' := [(al, .inr (2, [.ref ak, .ref ar, .int cnt])), (ak, .inl (cK, 300, .inl kf)), (ar, .inl (cR, 300, .inl wf))]) [0, 1, 2] rfl
    have hD9 := hD.sub (ws' := [(al, .inr (2, [.ref ak, .ref ar, .int cnt])), (ak, .inl (cK, 300, .inl kf)), (ar, .inl (cR, 300, .inl wf))]) [0, 1, 2] (by decide) rfl
    have hK9 := hK.sub (tys' := [(cK, .int), (cR, .int)]) [0, 1] rfl
    exact W.zret (v := 0) hx hb hr (by decide) (fun t ht hW => ⟨⟨0, (cnt, kf, wf), rfl, hpost, by rw [ht]; exact hP9, va_K.moved hW.alike hK9, hD9⟩, hS.F ht⟩) hS.2.2 d_List_add_18
  · skip
    have c4 : ¬ (nc < 0) := fun q => c4 ((ti_lt hcnt (ti_k (by decide))).mpr q)
    refine lv_aload_n hx hb d_List_add_7 rfl (lv_at hl 0 rfl) ?_
    refine va_get (D := (dC, dI)) (ci := 2) (v := .int cnt) (C := R_List) (T := T_List) (N := 3) hx hb hts i_List hown hK hP 0 rfl rfl 2 (by decide) (hts _ wd_69) (fun _ h9 => h9) rfl d_List_add_8 ?_
    refine lv_sipush (v := 300) hx hb d_List_add_11 (by decide) ?_
    refine lv_icmp_lt (tgt := 19) hx hb d_List_add_14 (by decide) (fun c14 => ?_) (fun c14 => ?_)
    · skip
      have c14 : nc < 300 := (ti_lt hcnt (ti_k (by decide))).mp c14
      refine lv_aload_n hx hb d_List_add_19 rfl (lv_at hl 0 rfl) ?_
      refine va_get (D := (dC, dI)) (ci := 2) (v := .int cnt) (C := R_List) (T := T_List) (N := 3) hx hb hts i_List hown hK hP 0 rfl rfl 2 (by decide) (hts _ wd_69) (fun _ h9 => h9) rfl d_List_add_20 ?_
      refine lv_istore_n (lv' := [(3, .int cnt), (0, .ref al), (1, .int a1), (2, .int a2)]) hx hb d_List_add_23 rfl hl (by decide) rfl (fun ls hl => ?_)
      refine w_loop (I := fun n H' locs' g' => ∃ (ix : Int32) (zix : Int) (kc : Nat → Int32) (wc : Nat → Int32) (ls : Array Slot), g' = F0 m 24 ls [] ∧ lv_has ls 4 [(0, .ref al), (1, .int a1), (2, .int a2), (3, .int ix)] ∧ n = zix.toNat ∧ ix.toInt = zix ∧ (0 ≤ zix ∧ zix ≤ nc) ∧ (∀ i : Nat, (i : Int) < zix → kc i = kf i ∧ wc i = wf i) ∧ (∀ i : Nat, zix ≤ (i : Int) → (i : Int) < nc → kc (i + 1) = kf i ∧ wc (i + 1) = wf i ∧ a1 < kf i) ∧ va_P (dC, dI) vwCl [(al, .inr (2, [.ref ak, .ref ar, .int cnt])), (ak, .inl (cK, 300, .inl kc)), (ar, .inl (cR, 300, .inl wc))] H' ∧ va_D A [(al, .inr (2, [.ref ak, .ref ar, .int cnt])), (ak, .inl (cK, 300, .inl kc)), (ar, .inl (cR, 300, .inl wc))] ∧ va_S A s.heap H' locs') ?_ ⟨cnt, nc, kf, wf, ls, rfl, lv_sub hl [1, 2, 3, 0] rfl, rfl, hcnt, by omega, fun i _ => ⟨rfl, rfl⟩, fun i q1 q2 => by omega, hP, hD, hS⟩
      intro n24 H24 locs g' hI ih24
      obtain ⟨ix, zix, kc, wc, ls, rfl, hl, hn, hix, i1, i2, i3, hP, hD, hS⟩ := hI
      refine lv_iload_n hx hb d_List_add_24 rfl (lv_at hl 3 rfl) ?_
      refine lv_if_le (tgt := 74) hx hb d_List_add_25 (by decide) (fun c25 => ?_) (fun c25 => ?_)
      · skip
        have c25 : zix ≤ 0 := (ti_le hix (ti_k (by decide))).mp c25
        refine lv_aload_n hx hb d_List_add_74 rfl (lv_at hl 0 rfl) ?_
        refine va_get (D := (dC, dI)) (ci := 2) (v := .ref ak) (C := R_List) (T := T_List) (N := 3) hx hb hts i_List hown hK hP 0 rfl rfl 0 (by decide) (hts _ wd_65) (fun _ h9 => h9) rfl d_List_add_75 ?_
        refine lv_iload_n hx hb d_List_add_78 rfl (lv_at hl 3 rfl) ?_
        refine lv_iload_n hx hb d_List_add_79 rfl (lv_at hl 1 rfl) ?_
        have in80 : vp_in ix 300 := vi_in hix (by omega) (by omega)
        refine va_iast hx hb hK hP hD hS 1 0 rfl rfl in80 d_List_add_80 (fun H80 locs hP hD hS => ?_)
        obtain ⟨f80, ef80⟩ : ∃ g, g = upd kc (ix).toNatClampNeg a1 := ⟨_, rfl⟩
        have hP : va_P (dC, dI) vwCl [(al, .inr (2, [.ref ak, .ref ar, .int cnt])), (ak, .inl (cK, 300, .inl f80)), (ar, .inl (cR, 300, .inl wc))] H80 := by rw [ef80]; exact hP
        have hD : va_D A [(al, .inr (2, [.ref ak, .ref ar, .int cnt])), (ak, .inl (cK, 300, .inl f80)), (ar, .inl (cR, 300, .inl wc))] := by rw [ef80]; exact hD
        have ef80 : f80 = upd kc (zix).toNat a1 := by rw [ef80, vi_cl hix]
        refine lv_aload_n hx hb d_List_add_81 rfl (lv_at hl 0 rfl) ?_
        refine va_get (D := (dC, dI)) (ci := 2) (v := .ref ar) (C := R_List) (T := T_List) (N := 3) hx hb hts i_List hown hK hP 0 rfl rfl 1 (by decide) (hts _ wd_67) (fun _ h9 => h9) rfl d_List_add_82 ?_
        refine lv_iload_n hx hb d_List_add_85 rfl (lv_at hl 3 rfl) ?_
        refine lv_iload_n hx hb d_List_add_86 rfl (lv_at hl 2 rfl) ?_
        have in87 : vp_in ix 300 := vi_in hix (by omega) (by omega)
        refine va_iast hx hb hK hP hD hS 2 1 rfl rfl in87 d_List_add_87 (fun H87 locs hP hD hS => ?_)
        obtain ⟨f87, ef87⟩ : ∃ g, g = upd wc (ix).toNatClampNeg a2 := ⟨_, rfl⟩
        have hP : va_P (dC, dI) vwCl [(al, .inr (2, [.ref ak, .ref ar, .int cnt])), (ak, .inl (cK, 300, .inl f80)), (ar, .inl (cR, 300, .inl f87))] H87 := by rw [ef87]; exact hP
        have hD : va_D A [(al, .inr (2, [.ref ak, .ref ar, .int cnt])), (ak, .inl (cK, 300, .inl f80)), (ar, .inl (cR, 300, .inl f87))] := by rw [ef87]; exact hD
        have ef87 : f87 = upd wc (zix).toNat a2 := by rw [ef87, vi_cl hix]
        refine lv_aload_n hx hb d_List_add_88 rfl (lv_at hl 0 rfl) ?_
        refine lv_dup hx hb d_List_add_89 rfl ?_
        refine va_get (D := (dC, dI)) (ci := 2) (v := .int cnt) (C := R_List) (T := T_List) (N := 3) hx hb hts i_List hown hK hP 0 rfl rfl 2 (by decide) (hts _ wd_69) (fun _ h9 => h9) rfl d_List_add_90 ?_
        refine lv_iconst (v := 1) hx hb d_List_add_93 (by decide) ?_
        refine lv_iadd hx hb d_List_add_94 ?_
        refine lv_topi (fun v94 e94 => ?_)
        have h94 : v94.toInt = nc + 1 := by rw [e94]; exact ti_add hcnt (ti_k (by decide)) (by omega) (by omega)
        refine va_put (D := (dC, dI)) (ci := 2) (v := .int v94) (ty := .int) (C := R_List) (T := T_List) (N := 3) hx hb hts i_List t_List t_List_ok n_List hown hK hP hD hS 0 rfl rfl 2 (by decide) (hts _ wd_69) (fun _ h9 => h9) rfl (by decide +kernel) rfl rfl (Nat.le_of_ble_eq_true rfl) d_List_add_95 (fun H95 locs hP hD hS => ?_)
        have hP : va_P (dC, dI) vwCl [(al, .inr (2, [.ref ak, .ref ar, .int v94])), (ak, .inl (cK, 300, .inl f80)), (ar, .inl (cR, 300, .inl f87))] H95 := hP
        have hD : va_D A [(al, .inr (2, [.ref ak, .ref ar, .int v94])), (ak, .inl (cK, 300, .inl f80)), (ar, .inl (cR, 300, .inl f87))] := hD
        refine lv_iconst (v := 1) hx hb d_List_add_98 (by decide) ?_
        have hpost : (nc = 300 ∧ (1 : Int32) = 0 ∧ v94 = cnt ∧ f80 = kf ∧ f87 = wf) ∨ (nc < 300 ∧ (1 : Int32) = 1 ∧ v94.toInt = nc + 1 ∧ isIns nc a1 a2 kf wf f80 f87) := by
          refine Or.inr ⟨by omega, rfl, h94, ?_⟩
          first | exact ins_end i1 i2 i3 ef80 ef87 (Or.inl (by omega)) | exact ins_end i1 i2 i3 ef80 ef87 (Or.inr (by rw [← e35]; intro q; have := Int32.lt_iff_toInt_lt.mp q; omega))
        have hP9 := hP.sub (ws' := [(al, .inr (2, [.ref ak, .ref ar, .int v94])), (ak, .inl (cK, 300, .inl f80)), (ar, .inl (cR, 300, .inl f87))]) [0, 1, 2] rfl
        have hD9 := hD.sub (ws' := [(al, .inr (2, [.ref ak, .ref ar, .int v94])), (ak, .inl (cK, 300, .inl f80)), (ar, .inl (cR, 300, .inl f87))]) [0, 1, 2] (by decide) rfl
        have hK9 := hK.sub (tys' := [(cK, .int), (cR, .int)]) [0, 1] rfl
        exact W.zret (v := 1) hx hb hr (by decide) (fun t ht hW => ⟨⟨1, (v94, f80, f87), rfl, hpost, by rw [ht]; exact hP9, va_K.moved hW.alike hK9, hD9⟩, hS.F ht⟩) hS.2.2 d_List_add_99
      · skip
        have c25 : ¬ (zix ≤ 0) := fun q => c25 ((ti_le hix (ti_k (by decide))).mpr q)
        refine lv_aload_n hx hb d_List_add_28 rfl (lv_at hl 0 rfl) ?_
        refine va_get (D := (dC, dI)) (ci := 2) (v := .ref ak) (C := R_List) (T := T_List) (N := 3) hx hb hts i_List hown hK hP 0 rfl rfl 0 (by decide) (hts _ wd_65) (fun _ h9 => h9) rfl d_List_add_29 ?_
        refine lv_iload_n hx hb d_List_add_32 rfl (lv_at hl 3 rfl) ?_
        refine lv_iconst (v := 1) hx hb d_List_add_33 (by decide) ?_
        refine lv_isub hx hb d_List_add_34 ?_
        refine lv_topi (fun v34 e34 => ?_)
        have h34 : v34.toInt = zix - 1 := by rw [e34]; exact ti_sub hix (ti_k (by decide)) (by omega) (by omega)
        have in35 : vp_in v34 300 := vi_in h34 (by omega) (by omega)
        refine va_iald hx hb hK hP 1 0 rfl rfl in35 d_List_add_35 ?_
        refine lv_topi (fun v35 e35 => ?_)
        have e35 : v35 = kc ((zix - 1)).toNat := by rw [e35, vi_cl h34]
        refine lv_iload_n hx hb d_List_add_36 rfl (lv_at hl 1 rfl) ?_
        refine lv_icmp_le (tgt := 74) hx hb d_List_add_37 (by decide) (fun c37 => ?_) (fun c37 => ?_)
        · skip
          have c37 : v35.toInt ≤ K := (ti_le rfl g1).mp c37
          refine lv_aload_n hx hb d_List_add_74 rfl (lv_at hl 0 rfl) ?_
          refine va_get (D := (dC, dI)) (ci := 2) (v := .ref ak) (C := R_List) (T := T_List) (N := 3) hx hb hts i_List hown hK hP 0 rfl rfl 0 (by decide) (hts _ wd_65) (fun _ h9 => h9) rfl d_List_add_75 ?_
          refine lv_iload_n hx hb d_List_add_78 rfl (lv_at hl 3 rfl) ?_
          refine lv_iload_n hx hb d_List_add_79 rfl (lv_at hl 1 rfl) ?_
          have in80 : vp_in ix 300 := vi_in hix (by omega) (by omega)
          refine va_iast hx hb hK hP hD hS 1 0 rfl rfl in80 d_List_add_80 (fun H80 locs hP hD hS => ?_)
          obtain ⟨f80, ef80⟩ : ∃ g, g = upd kc (ix).toNatClampNeg a1 := ⟨_, rfl⟩
          have hP : va_P (dC, dI) vwCl [(al, .inr (2, [.ref ak, .ref ar, .int cnt])), (ak, .inl (cK, 300, .inl f80)), (ar, .inl (cR, 300, .inl wc))] H80 := by rw [ef80]; exact hP
          have hD : va_D A [(al, .inr (2, [.ref ak, .ref ar, .int cnt])), (ak, .inl (cK, 300, .inl f80)), (ar, .inl (cR, 300, .inl wc))] := by rw [ef80]; exact hD
          have ef80 : f80 = upd kc (zix).toNat a1 := by rw [ef80, vi_cl hix]
          refine lv_aload_n hx hb d_List_add_81 rfl (lv_at hl 0 rfl) ?_
          refine va_get (D := (dC, dI)) (ci := 2) (v := .ref ar) (C := R_List) (T := T_List) (N := 3) hx hb hts i_List hown hK hP 0 rfl rfl 1 (by decide) (hts _ wd_67) (fun _ h9 => h9) rfl d_List_add_82 ?_
          refine lv_iload_n hx hb d_List_add_85 rfl (lv_at hl 3 rfl) ?_
          refine lv_iload_n hx hb d_List_add_86 rfl (lv_at hl 2 rfl) ?_
          have in87 : vp_in ix 300 := vi_in hix (by omega) (by omega)
          refine va_iast hx hb hK hP hD hS 2 1 rfl rfl in87 d_List_add_87 (fun H87 locs hP hD hS => ?_)
          obtain ⟨f87, ef87⟩ : ∃ g, g = upd wc (ix).toNatClampNeg a2 := ⟨_, rfl⟩
          have hP : va_P (dC, dI) vwCl [(al, .inr (2, [.ref ak, .ref ar, .int cnt])), (ak, .inl (cK, 300, .inl f80)), (ar, .inl (cR, 300, .inl f87))] H87 := by rw [ef87]; exact hP
          have hD : va_D A [(al, .inr (2, [.ref ak, .ref ar, .int cnt])), (ak, .inl (cK, 300, .inl f80)), (ar, .inl (cR, 300, .inl f87))] := by rw [ef87]; exact hD
          have ef87 : f87 = upd wc (zix).toNat a2 := by rw [ef87, vi_cl hix]
          refine lv_aload_n hx hb d_List_add_88 rfl (lv_at hl 0 rfl) ?_
          refine lv_dup hx hb d_List_add_89 rfl ?_
          refine va_get (D := (dC, dI)) (ci := 2) (v := .int cnt) (C := R_List) (T := T_List) (N := 3) hx hb hts i_List hown hK hP 0 rfl rfl 2 (by decide) (hts _ wd_69) (fun _ h9 => h9) rfl d_List_add_90 ?_
          refine lv_iconst (v := 1) hx hb d_List_add_93 (by decide) ?_
          refine lv_iadd hx hb d_List_add_94 ?_
          refine lv_topi (fun v94 e94 => ?_)
          have h94 : v94.toInt = nc + 1 := by rw [e94]; exact ti_add hcnt (ti_k (by decide)) (by omega) (by omega)
          refine va_put (D := (dC, dI)) (ci := 2) (v := .int v94) (ty := .int) (C := R_List) (T := T_List) (N := 3) hx hb hts i_List t_List t_List_ok n_List hown hK hP hD hS 0 rfl rfl 2 (by decide) (hts _ wd_69) (fun _ h9 => h9) rfl (by decide +kernel) rfl rfl (Nat.le_of_ble_eq_true rfl) d_List_add_95 (fun H95 locs hP hD hS => ?_)
          have hP : va_P (dC, dI) vwCl [(al, .inr (2, [.ref ak, .ref ar, .int v94])), (ak, .inl (cK, 300, .inl f80)), (ar, .inl (cR, 300, .inl f87))] H95 := hP
          have hD : va_D A [(al, .inr (2, [.ref ak, .ref ar, .int v94])), (ak, .inl (cK, 300, .inl f80)), (ar, .inl (cR, 300, .inl f87))] := hD
          refine lv_iconst (v := 1) hx hb d_List_add_98 (by decide) ?_
          have hpost : (nc = 300 ∧ (1 : Int32) = 0 ∧ v94 = cnt ∧ f80 = kf ∧ f87 = wf) ∨ (nc < 300 ∧ (1 : Int32) = 1 ∧ v94.toInt = nc + 1 ∧ isIns nc a1 a2 kf wf f80 f87) := by
            refine Or.inr ⟨by omega, rfl, h94, ?_⟩
            first | exact ins_end i1 i2 i3 ef80 ef87 (Or.inl (by omega)) | exact ins_end i1 i2 i3 ef80 ef87 (Or.inr (by rw [← e35]; intro q; have := Int32.lt_iff_toInt_lt.mp q; omega))
          have hP9 := hP.sub (ws' := [(al, .inr (2, [.ref ak, .ref ar, .int v94])), (ak, .inl (cK, 300, .inl f80)), (ar, .inl (cR, 300, .inl f87))]) [0, 1, 2] rfl
          have hD9 := hD.sub (ws' := [(al, .inr (2, [.ref ak, .ref ar, .int v94])), (ak, .inl (cK, 300, .inl f80)), (ar, .inl (cR, 300, .inl f87))]) [0, 1, 2] (by decide) rfl
          have hK9 := hK.sub (tys' := [(cK, .int), (cR, .int)]) [0, 1] rfl
          exact W.zret (v := 1) hx hb hr (by decide) (fun t ht hW => ⟨⟨1, (v94, f80, f87), rfl, hpost, by rw [ht]; exact hP9, va_K.moved hW.alike hK9, hD9⟩, hS.F ht⟩) hS.2.2 d_List_add_99
        · skip
          have c37 : ¬ (v35.toInt ≤ K) := fun q => c37 ((ti_le rfl g1).mpr q)
          have c37 : a1 < v35 := Int32.lt_iff_toInt_lt.mpr (by omega)
          refine lv_aload_n hx hb d_List_add_40 rfl (lv_at hl 0 rfl) ?_
          refine va_get (D := (dC, dI)) (ci := 2) (v := .ref ak) (C := R_List) (T := T_List) (N := 3) hx hb hts i_List hown hK hP 0 rfl rfl 0 (by decide) (hts _ wd_65) (fun _ h9 => h9) rfl d_List_add_41 ?_
          refine lv_iload_n hx hb d_List_add_44 rfl (lv_at hl 3 rfl) ?_
          refine lv_aload_n hx hb d_List_add_45 rfl (lv_at hl 0 rfl) ?_
          refine va_get (D := (dC, dI)) (ci := 2) (v := .ref ak) (C := R_List) (T := T_List) (N := 3) hx hb hts i_List hown hK hP 0 rfl rfl 0 (by decide) (hts _ wd_65) (fun _ h9 => h9) rfl d_List_add_46 ?_
          refine lv_iload_n hx hb d_List_add_49 rfl (lv_at hl 3 rfl) ?_
          refine lv_iconst (v := 1) hx hb d_List_add_50 (by decide) ?_
          refine lv_isub hx hb d_List_add_51 ?_
          refine lv_topi (fun v51 e51 => ?_)
          have h51 : v51.toInt = zix - 1 := by rw [e51]; exact ti_sub hix (ti_k (by decide)) (by omega) (by omega)
          have in52 : vp_in v51 300 := vi_in h51 (by omega) (by omega)
          refine va_iald hx hb hK hP 1 0 rfl rfl in52 d_List_add_52 ?_
          refine lv_topi (fun v52 e52 => ?_)
          have e52 : v52 = kc ((zix - 1)).toNat := by rw [e52, vi_cl h51]
          have in53 : vp_in ix 300 := vi_in hix (by omega) (by omega)
          refine va_iast hx hb hK hP hD hS 1 0 rfl rfl in53 d_List_add_53 (fun H53 locs hP hD hS => ?_)
          obtain ⟨f53, ef53⟩ : ∃ g, g = upd kc (ix).toNatClampNeg v52 := ⟨_, rfl⟩
          have hP : va_P (dC, dI) vwCl [(al, .inr (2, [.ref ak, .ref ar, .int cnt])), (ak, .inl (cK, 300, .inl f53)), (ar, .inl (cR, 300, .inl wc))] H53 := by rw [ef53]; exact hP
          have hD : va_D A [(al, .inr (2, [.ref ak, .ref ar, .int cnt])), (ak, .inl (cK, 300, .inl f53)), (ar, .inl (cR, 300, .inl wc))] := by rw [ef53]; exact hD
          have ef53 : f53 = upd kc (zix).toNat v52 := by rw [ef53, vi_cl hix]
          refine lv_aload_n hx hb d_List_add_54 rfl (lv_at hl 0 rfl) ?_
          refine va_get (D := (dC, dI)) (ci := 2) (v := .ref ar) (C := R_List) (T := T_List) (N := 3) hx hb hts i_List hown hK hP 0 rfl rfl 1 (by decide) (hts _ wd_67) (fun _ h9 => h9) rfl d_List_add_55 ?_
          refine lv_iload_n hx hb d_List_add_58 rfl (lv_at hl 3 rfl) ?_
          refine lv_aload_n hx hb d_List_add_59 rfl (lv_at hl 0 rfl) ?_
          refine va_get (D := (dC, dI)) (ci := 2) (v := .ref ar) (C := R_List) (T := T_List) (N := 3) hx hb hts i_List hown hK hP 0 rfl rfl 1 (by decide) (hts _ wd_67) (fun _ h9 => h9) rfl d_List_add_60 ?_
          refine lv_iload_n hx hb d_List_add_63 rfl (lv_at hl 3 rfl) ?_
          refine lv_iconst (v := 1) hx hb d_List_add_64 (by decide) ?_
          refine lv_isub hx hb d_List_add_65 ?_
          refine lv_topi (fun v65 e65 => ?_)
          have h65 : v65.toInt = zix - 1 := by rw [e65]; exact ti_sub hix (ti_k (by decide)) (by omega) (by omega)
          have in66 : vp_in v65 300 := vi_in h65 (by omega) (by omega)
          refine va_iald hx hb hK hP 2 1 rfl rfl in66 d_List_add_66 ?_
          refine lv_topi (fun v66 e66 => ?_)
          have e66 : v66 = wc ((zix - 1)).toNat := by rw [e66, vi_cl h65]
          have in67 : vp_in ix 300 := vi_in hix (by omega) (by omega)
          refine va_iast hx hb hK hP hD hS 2 1 rfl rfl in67 d_List_add_67 (fun H67 locs hP hD hS => ?_)
          obtain ⟨f67, ef67⟩ : ∃ g, g = upd wc (ix).toNatClampNeg v66 := ⟨_, rfl⟩
          have hP : va_P (dC, dI) vwCl [(al, .inr (2, [.ref ak, .ref ar, .int cnt])), (ak, .inl (cK, 300, .inl f53)), (ar, .inl (cR, 300, .inl f67))] H67 := by rw [ef67]; exact hP
          have hD : va_D A [(al, .inr (2, [.ref ak, .ref ar, .int cnt])), (ak, .inl (cK, 300, .inl f53)), (ar, .inl (cR, 300, .inl f67))] := by rw [ef67]; exact hD
          have ef67 : f67 = upd wc (zix).toNat v66 := by rw [ef67, vi_cl hix]
          obtain ⟨v68, e68⟩ : ∃ y : Int32, y = ix + (-1) := ⟨_, rfl⟩
          have h68 : v68.toInt = zix + (-1) := by rw [e68]; exact ti_add hix (ti_k (by decide)) (by omega) (by omega)
          refine lv_iinc (v := v68) (lv' := [(3, .int v68), (0, .ref al), (1, .int a1), (2, .int a2)]) hx hb d_List_add_68 hl (k := 3) rfl (by rw [e68]; rfl) (by decide) rfl (fun ls hl => ?_)
          refine lv_goto (tgt := 24) hx hb d_List_add_71 (by decide) ?_
          exact ih24 _ (by omega) _ _ _ ⟨v68, (zix + (-1)), f53, f67, ls, rfl, lv_sub hl [1, 2, 3, 0] rfl, rfl, h68, by omega, fun i q => by rw [ef53, ef67, pk_un (by omega), pk_un (by omega)]; exact i2 i (by omega), ins_step i1 i2 i3 ef53 ef67 e35 e52 e66 c37 (by omega), hP, hD, hS⟩
    · skip
      have c14 : ¬ (nc < 300) := fun q => c14 ((ti_lt hcnt (ti_k (by decide))).mpr q)
      refine lv_iconst (v := 0) hx hb d_List_add_17 (by decide) ?_
      have hpost : (nc = 300 ∧ (0 : Int32) = 0 ∧ cnt = cnt ∧ kf = kf ∧ wf = wf) ∨ (nc < 300 ∧ (0 : Int32) = 1 ∧ cnt.toInt = nc + 1 ∧ isIns nc a1 a2 kf wf kf wf) := by
        exact Or.inl ⟨by omega, rfl, rfl, rfl, rfl⟩
      have hP9 := hP.sub (ws' := [(al, .inr (2, [.ref ak, .ref ar, .int cnt])), (ak, .inl (cK, 300, .inl kf)), (ar, .inl (cR, 300, .inl wf))]) [0, 1, 2] rfl
      have hD9 := hD.sub (ws' := [(al, .inr (2, [.ref ak, .ref ar, .int cnt])), (ak, .inl (cK, 300, .inl kf)), (ar, .inl (cR, 300, .inl wf))]) [0, 1, 2] (by decide) rfl
      have hK9 := hK.sub (tys' := [(cK, .int), (cR, .int)]) [0, 1] rfl
      exact W.zret (v := 0) hx hb hr (by decide) (fun t ht hW => ⟨⟨0, (cnt, kf, wf), rfl, hpost, by rw [ht]; exact hP9, va_K.moved hW.alike hK9, hD9⟩, hS.F ht⟩) hS.2.2 d_List_add_18

set_option maxHeartbeats 4000000 in
set_option maxRecDepth 100000 in
theorem c_leads (l : Launch) (dC : Nat → ClassId) (dI : Nat → Nat → Nat) (al ak ar : Nat) (cK cR : ClassId) (cnt : Int32) (kf wf : Nat → Int32) (nc : Int) (hcnt : cnt.toInt = nc) (hn0 : 0 ≤ nc) (hn1 : nc ≤ 300) (a1 : Int32) (t : Int) (g1 : a1.toInt = t) (t0 : 0 ≤ t) (t1 : t < nc) (hkp : ∀ i : Nat, (i : Int) < nc → 0 ≤ (kf i).toInt) : Met l y_List_leads (.code y_List_leads b_List_leads 3 (some .boolean) :: allw) ({ frames := 2, cells := 0, slots := 0, locals := 43 }) (va_Pc [.ref al, .int a1] (ro_B (dC, dI) vwCl [(al, .inr (2, [.ref ak, .ref ar, .int cnt])), (ak, .inl (cK, 300, .inl kf)), (ar, .inl (cR, 300, .inl wf))] [(cK, .int), (cR, .int)])) (va_Qi (fun (r : Int32) (_ : Unit) => isB r (lead nc kf wf t)) (fun _ _ => True) (fun _ => False)) 0 0 (fun _ => False) := by
  refine Met.ofW (cc := b_List_leads) (maxL := 3) (ret := (some .boolean)) (by decide) rfl ?_
  intro p e s m args below meth c s₁ B hml hv
  obtain ⟨rfl, hP, hK⟩ := hv
  have hx := B.exec
  have hb := B.bytes
  have hr := B.returns
  have hts : ∀ w ∈ allw, w.before _ s = true := fun w h => atoms_spec (ws := .code y_List_leads b_List_leads 3 (some .boolean) :: allw) B.pre w (List.mem_cons_of_mem _ h)
  have hown : s.vm.findClass R_List = some m.cls := findClass_of_methodNamed B.named
  have hlocks := B.notSynchronized
  have hS : va_S (fun _ => False) s.heap s.heap [] := va_S.rf
  have hP : va_P (dC, dI) vwCl [(al, .inr (2, [.ref ak, .ref ar, .int cnt])), (ak, .inl (cK, 300, .inl kf)), (ar, .inl (cR, 300, .inl wf))] s.heap := hP
  have hl := lv_entry ([.ref al, .int a1]) (n := 3) (Nat.le_of_ble_eq_true rfl)
  rw [lg_entry_eq]
  generalize (lg_sl ([.ref al, .int a1]) ++ List.replicate (3 - (lg_sl ([.ref al, .int a1])).length) Slot.unset).toArray = ls at hl ⊢
  have hl : lv_has ls 3 [(0, .ref al), (1, .int a1)] := hl
  refine lv_iconst (v := 0) hx hb d_List_leads_0 (by decide) ?_
  refine lv_istore_n (lv' := [(2, .int 0), (0, .ref al), (1, .int a1)]) hx hb d_List_leads_1 rfl hl (by decide) rfl (fun ls hl => ?_)
  refine w_loop (I := fun n H' locs' g' => ∃ (ox : Int32) (zox : Int) (ls : Array Slot), g' = F0 m 2 ls [] ∧ lv_has ls 3 [(0, .ref al), (1, .int a1), (2, .int ox)] ∧ n = (nc - zox).toNat ∧ ox.toInt = zox ∧ (0 ≤ zox ∧ zox ≤ nc) ∧ (∀ o : Int, 0 ≤ o → o < zox → ¬ (better wf o t ∧ comm (kf o.toNat).toInt (kf t.toNat).toInt)) ∧ va_P (dC, dI) vwCl [(al, .inr (2, [.ref ak, .ref ar, .int cnt])), (ak, .inl (cK, 300, .inl kf)), (ar, .inl (cR, 300, .inl wf))] H' ∧ va_S (fun _ => False) s.heap H' locs') ?_ ⟨0, 0, ls, rfl, lv_sub hl [1, 2, 0] rfl, rfl, (ti_k (by decide)), by omega, fun o q1 q2 => by omega, hP, hS⟩
  intro n2 H2 locs g' hI ih2
  obtain ⟨ox, zox, ls, rfl, hl, hn, hox, i1, i2, hP, hS⟩ := hI
  refine lv_iload_n hx hb d_List_leads_2 rfl (lv_at hl 2 rfl) ?_
  refine lv_aload_n hx hb d_List_leads_3 rfl (lv_at hl 0 rfl) ?_
  refine va_get (D := (dC, dI)) (ci := 2) (v := .int cnt) (C := R_List) (T := T_List) (N := 3) hx hb hts i_List hown hK hP 0 rfl rfl 2 (by decide) (hts _ wd_69) (fun _ h9 => h9) rfl d_List_leads_4 ?_
  refine lv_icmp_ge (tgt := 45) hx hb d_List_leads_7 (by decide) (fun c7 => ?_) (fun c7 => ?_)
  · skip
    have c7 : nc ≤ zox := (ti_le hcnt hox).mp c7
    refine lv_iconst (v := 1) hx hb d_List_leads_45 (by decide) ?_
    have hpost : isB 1 (lead nc kf wf t) := by
      refine Or.inl ⟨rfl, ?_⟩
      exact fun o q1 q2 => i2 o q1 (by omega)
    exact W.zret (v := 1) hx hb hr (by decide) (fun t ht hW => ⟨⟨1, (), rfl, hpost, trivial⟩, hS.F ht⟩) hS.2.2 d_List_leads_46
  · skip
    have c7 : ¬ (nc ≤ zox) := fun q => c7 ((ti_le hcnt hox).mpr q)
    refine lv_aload_n hx hb d_List_leads_10 rfl (lv_at hl 0 rfl) ?_
    refine lv_iload_n hx hb d_List_leads_11 rfl (lv_at hl 2 rfl) ?_
    refine lv_iload_n hx hb d_List_leads_12 rfl (lv_at hl 1 rfl) ?_
    have hPc := hP.sub (ws' := [(al, .inr (2, [.ref ak, .ref ar, .int cnt])), (ak, .inl (cK, 300, .inl kf)), (ar, .inl (cR, 300, .inl wf))]) [0, 1, 2] rfl
    have hKc := hK.sub (tys' := [(cK, .int), (cR, .int)]) [0, 1] rfl
    refine va_calli (va_runV (As := [.int ox, .int a1]) (rest := []) ⟨hx, hb, hml, hown, hts⟩ (c_isBetter l dC dI al ak ar cK cR cnt kf wf nc hcnt hn0 hn1 ox a1 zox t hox g1 (by omega) (by omega) (by omega) (by omega)) (aw_V 2 hts wd_506 wd_508 ws_27 wd_4 wd_509 rfl rfl (by decide +kernel) ⟨Nat.le_of_ble_eq_true rfl, Nat.le_of_ble_eq_true rfl⟩) ⟨ro_blind, va_recv hKc hPc (ci := 2) (q0 := 0) rfl rfl, ro_pre hPc hKc⟩ rfl rfl hl.1 rfl (lv_room (Nat.le_of_ble_eq_true rfl)) d_List_leads_13 ⟨Nat.le_of_ble_eq_true rfl, Nat.le_of_ble_eq_true rfl⟩) hS (fun q _ h => h.elim) (fun q h => h.elim) (fun v13 _ t9 H13 locs ht hvm h13 hB hz1 hk1 hS => ?_)
    have hP := ro_keep hP hk1
    clear hPc hKc ht hvm hB hz1 hk1
    refine lv_if_eq (tgt := 39) hx hb d_List_leads_16 (by decide) (fun c16 => ?_) (fun c16 => ?_)
    · skip
      have c16 : ¬ (better wf zox t) := bi_z h13 c16
      obtain ⟨v39, e39⟩ : ∃ y : Int32, y = ox + 1 := ⟨_, rfl⟩
      have h39 : v39.toInt = zox + 1 := by rw [e39]; exact ti_add hox (ti_k (by decide)) (by omega) (by omega)
      refine lv_iinc (v := v39) (lv' := [(2, .int v39), (0, .ref al), (1, .int a1)]) hx hb d_List_leads_39 hl (k := 2) rfl (by rw [e39]; rfl) (by decide) rfl (fun ls hl => ?_)
      refine lv_goto (tgt := 2) hx hb d_List_leads_42 (by decide) ?_
      exact ih2 _ (by omega) _ _ _ ⟨v39, (zox + 1), ls, rfl, lv_sub hl [1, 2, 0] rfl, rfl, h39, by omega, fun o q1 q2 => by rcases (show o < zox ∨ o = zox by omega) with z | z <;> first | exact i2 o q1 z | (rw [z]; exact fun w => c16 w.1) | (rw [z, ← e24, ← e30]; exact fun w => c34 w.2), hP, hS⟩
    · skip
      have c16 : better wf zox t := bi_nz h13 c16
      refine lv_aload_n hx hb d_List_leads_19 rfl (lv_at hl 0 rfl) ?_
      refine va_get (D := (dC, dI)) (ci := 2) (v := .ref ak) (C := R_List) (T := T_List) (N := 3) hx hb hts i_List hown hK hP 0 rfl rfl 0 (by decide) (hts _ wd_65) (fun _ h9 => h9) rfl d_List_leads_20 ?_
      refine lv_iload_n hx hb d_List_leads_23 rfl (lv_at hl 2 rfl) ?_
      have in24 : vp_in ox 300 := vi_in hox (by omega) (by omega)
      refine va_iald hx hb hK hP 1 0 rfl rfl in24 d_List_leads_24 ?_
      refine lv_topi (fun v24 e24 => ?_)
      have e24 : v24 = kf (zox).toNat := by rw [e24, vi_cl hox]
      refine lv_aload_n hx hb d_List_leads_25 rfl (lv_at hl 0 rfl) ?_
      refine va_get (D := (dC, dI)) (ci := 2) (v := .ref ak) (C := R_List) (T := T_List) (N := 3) hx hb hts i_List hown hK hP 0 rfl rfl 0 (by decide) (hts _ wd_65) (fun _ h9 => h9) rfl d_List_leads_26 ?_
      refine lv_iload_n hx hb d_List_leads_29 rfl (lv_at hl 1 rfl) ?_
      have in30 : vp_in a1 300 := vi_in g1 (by omega) (by omega)
      refine va_iald hx hb hK hP 1 0 rfl rfl in30 d_List_leads_30 ?_
      refine lv_topi (fun v30 e30 => ?_)
      have e30 : v30 = kf (t).toNat := by rw [e30, vi_cl g1]
      have hPc := hP.sub (ws' := []) [] rfl
      have hKc := hK.sub (tys' := []) [] rfl
      refine va_calli (va_runS (As := [.int v24, .int v30]) (rest := []) ⟨hx, hb, hml, hown, hts⟩ (c_haveCommonDot l dC dI v24 v30 v24.toInt v30.toInt rfl rfl (by rw [e24]; exact hkp _ (by omega)) (by rw [e30]; exact hkp _ (by omega))) (aw_S 2 hts wd_510 wd_511 wd_13 wd_512 rfl rfl (by decide +kernel) ⟨Nat.le_of_ble_eq_true rfl, Nat.le_of_ble_eq_true rfl⟩) ⟨ro_blind, ro_pre hPc hKc⟩ rfl rfl hl.1 rfl (lv_room (Nat.le_of_ble_eq_true rfl)) d_List_leads_31 ⟨Nat.le_of_ble_eq_true rfl, Nat.le_of_ble_eq_true rfl⟩) hS (fun q _ h => h.elim) (fun q h => h.elim) (fun v31 _ t9 H31 locs ht hvm h31 hB hz1 hk1 hS => ?_)
      have hP := ro_keep hP hk1
      clear hPc hKc ht hvm hB hz1 hk1
      refine lv_if_eq (tgt := 39) hx hb d_List_leads_34 (by decide) (fun c34 => ?_) (fun c34 => ?_)
      · skip
        have c34 : ¬ (comm v24.toInt v30.toInt) := bi_z h31 c34
        obtain ⟨v39, e39⟩ : ∃ y : Int32, y = ox + 1 := ⟨_, rfl⟩
        have h39 : v39.toInt = zox + 1 := by rw [e39]; exact ti_add hox (ti_k (by decide)) (by omega) (by omega)
        refine lv_iinc (v := v39) (lv' := [(2, .int v39), (0, .ref al), (1, .int a1)]) hx hb d_List_leads_39 hl (k := 2) rfl (by rw [e39]; rfl) (by decide) rfl (fun ls hl => ?_)
        refine lv_goto (tgt := 2) hx hb d_List_leads_42 (by decide) ?_
        exact ih2 _ (by omega) _ _ _ ⟨v39, (zox + 1), ls, rfl, lv_sub hl [1, 2, 0] rfl, rfl, h39, by omega, fun o q1 q2 => by rcases (show o < zox ∨ o = zox by omega) with z | z <;> first | exact i2 o q1 z | (rw [z]; exact fun w => c16 w.1) | (rw [z, ← e24, ← e30]; exact fun w => c34 w.2), hP, hS⟩
      · skip
        have c34 : comm v24.toInt v30.toInt := bi_nz h31 c34
        refine lv_iconst (v := 0) hx hb d_List_leads_37 (by decide) ?_
        have hpost : isB 0 (lead nc kf wf t) := by
          refine Or.inr ⟨rfl, ?_⟩
          intro q
          exact q zox (by omega) (by omega) ⟨c16, by rw [← e24, ← e30]; exact c34⟩
        exact W.zret (v := 0) hx hb hr (by decide) (fun t ht hW => ⟨⟨0, (), rfl, hpost, trivial⟩, hS.F ht⟩) hS.2.2 d_List_leads_38
end
section
set_option maxHeartbeats 4000000 in
set_option maxRecDepth 100000 in
theorem c_takeTile (l : Launch) (dC : Nat → ClassId) (dI : Nat → Nat → Nat) (sz : Nat) (hq hp hst hqf hkn : Nat) (lim thd md sz0 tm tx ty sx sy stp : Int32) (a1 a2 a3 a4 : Int32) (x y x2 y2 : Int) (g1 : a1.toInt = x) (g2 : a2.toInt = y) (g3 : a3.toInt = x2) (g4 : a4.toInt = y2) (b1 : 0 ≤ x) (b2 : x ≤ x2) (b3 : 0 ≤ y) (b4 : y ≤ y2) : Met l y_Search_takeTile (.code y_Search_takeTile b_Search_takeTile 5 none :: allw) ({ frames := 0, cells := 0, slots := 0, locals := 0 }) (va_Pc [.ref hq, .int a1, .int a2, .int a3, .int a4] (rw_B (dC, dI) vwCl [(hq, .inr (3, [.ref hp, .ref hst, .int lim, .int thd, .int md, .int sz0, .int tm, .int tx, .int ty, .int sx, .int sy, .ref hqf, .ref hkn, .int stp]))] [] sz)) (va_Qv (fun (u : Int32 × Int32) => u.1.toInt = x2 - x ∧ u.2.toInt = y2 - y) (fun u t => rw_E (dC, dI) vwCl [(hq, .inr (3, [.ref hp, .ref hst, .int lim, .int thd, .int md, .int sz0, .int tm, .int a1, .int a2, .int u.1, .int u.2, .ref hqf, .ref hkn, .int stp]))] [] (va_A [(hq, .inr (3, [.ref hp, .ref hst, .int lim, .int thd, .int md, .int sz0, .int tm, .int tx, .int ty, .int sx, .int sy, .ref hqf, .ref hkn, .int stp]))] sz) t) (va_A [(hq, .inr (3, [.ref hp, .ref hst, .int lim, .int thd, .int md, .int sz0, .int tm, .int tx, .int ty, .int sx, .int sy, .ref hqf, .ref hkn, .int stp]))] sz)) 0 0 (va_A [(hq, .inr (3, [.ref hp, .ref hst, .int lim, .int thd, .int md, .int sz0, .int tm, .int tx, .int ty, .int sx, .int sy, .ref hqf, .ref hkn, .int stp]))] sz) := by
  refine Met.ofW (cc := b_Search_takeTile) (maxL := 5) (ret := none) (by decide) rfl ?_
  intro p e s m args below meth c s₁ B hml hv
  obtain ⟨rfl, hsz, hP, hK, hD0⟩ := hv
  have hx := B.exec
  have hb := B.bytes
  have hr := B.returns
  have hts : ∀ w ∈ allw, w.before _ s = true := fun w h => atoms_spec (ws := .code y_Search_takeTile b_Search_takeTile 5 none :: allw) B.pre w (List.mem_cons_of_mem _ h)
  have hown : s.vm.findClass R_Search = some m.cls := findClass_of_methodNamed B.named
  have hlocks := B.notSynchronized
  subst hsz
  have hD := hD0.self (sz := s.heap.size)
  generalize hAe : va_A [(hq, .inr (3, [.ref hp, .ref hst, .int lim, .int thd, .int md, .int sz0, .int tm, .int tx, .int ty, .int sx, .int sy, .ref hqf, .ref hkn, .int stp]))] s.heap.size = A at hD ⊢
  have hA : ∀ q : Nat, s.heap.size ≤ q → A q := fun q h => by rw [← hAe]; exact Or.inr h
  have hS : va_S A s.heap s.heap [] := va_S.rf
  have hP : va_P (dC, dI) vwCl [(hq, .inr (3, [.ref hp, .ref hst, .int lim, .int thd, .int md, .int sz0, .int tm, .int tx, .int ty, .int sx, .int sy, .ref hqf, .ref hkn, .int stp]))] s.heap := hP
  have hl := lv_entry ([.ref hq, .int a1, .int a2, .int a3, .int a4]) (n := 5) (Nat.le_of_ble_eq_true rfl)
  rw [lg_entry_eq]
  generalize (lg_sl ([.ref hq, .int a1, .int a2, .int a3, .int a4]) ++ List.replicate (5 - (lg_sl ([.ref hq, .int a1, .int a2, .int a3, .int a4])).length) Slot.unset).toArray = ls at hl ⊢
  have hl : lv_has ls 5 [(0, .ref hq), (1, .int a1), (2, .int a2), (3, .int a3), (4, .int a4)] := hl
  have q1 := ti_rng a3
  have q2 := ti_rng a4
  refine lv_aload_n hx hb d_Search_takeTile_0 rfl (lv_at hl 0 rfl) ?_
  refine lv_iload_n hx hb d_Search_takeTile_1 rfl (lv_at hl 1 rfl) ?_
  refine va_put (D := (dC, dI)) (ci := 3) (v := .int a1) (ty := .int) (C := R_Search) (T := T_Search) (N := 14) hx hb hts i_Search t_Search t_Search_ok n_Search hown hK hP hD hS 0 rfl rfl 7 (by decide) (hts _ wd_88) (fun _ h9 => h9) rfl (by decide +kernel) rfl rfl (Nat.le_of_ble_eq_true rfl) d_Search_takeTile_2 (fun H2 locs hP hD hS => ?_)
  have hP : va_P (dC, dI) vwCl [(hq, .inr (3, [.ref hp, .ref hst, .int lim, .int thd, .int md, .int sz0, .int tm, .int a1, .int ty, .int sx, .int sy, .ref hqf, .ref hkn, .int stp]))] H2 := hP
  have hD : va_D A [(hq, .inr (3, [.ref hp, .ref hst, .int lim, .int thd, .int md, .int sz0, .int tm, .int a1, .int ty, .int sx, .int sy, .ref hqf, .ref hkn, .int stp]))] := hD
  refine lv_aload_n hx hb d_Search_takeTile_5 rfl (lv_at hl 0 rfl) ?_
  refine lv_iload_n hx hb d_Search_takeTile_6 rfl (lv_at hl 2 rfl) ?_
  refine va_put (D := (dC, dI)) (ci := 3) (v := .int a2) (ty := .int) (C := R_Search) (T := T_Search) (N := 14) hx hb hts i_Search t_Search t_Search_ok n_Search hown hK hP hD hS 0 rfl rfl 8 (by decide) (hts _ wd_89) (fun _ h9 => h9) rfl (by decide +kernel) rfl rfl (Nat.le_of_ble_eq_true rfl) d_Search_takeTile_7 (fun H7 locs hP hD hS => ?_)
  have hP : va_P (dC, dI) vwCl [(hq, .inr (3, [.ref hp, .ref hst, .int lim, .int thd, .int md, .int sz0, .int tm, .int a1, .int a2, .int sx, .int sy, .ref hqf, .ref hkn, .int stp]))] H7 := hP
  have hD : va_D A [(hq, .inr (3, [.ref hp, .ref hst, .int lim, .int thd, .int md, .int sz0, .int tm, .int a1, .int a2, .int sx, .int sy, .ref hqf, .ref hkn, .int stp]))] := hD
  refine lv_aload_n hx hb d_Search_takeTile_10 rfl (lv_at hl 0 rfl) ?_
  refine lv_iload_n hx hb d_Search_takeTile_11 rfl (lv_at hl 3 rfl) ?_
  refine lv_iload_n hx hb d_Search_takeTile_12 rfl (lv_at hl 1 rfl) ?_
  refine lv_isub hx hb d_Search_takeTile_13 ?_
  refine lv_topi (fun v13 e13 => ?_)
  have h13 : v13.toInt = x2 - x := by rw [e13]; exact ti_sub g3 g1 (by omega) (by omega)
  refine va_put (D := (dC, dI)) (ci := 3) (v := .int v13) (ty := .int) (C := R_Search) (T := T_Search) (N := 14) hx hb hts i_Search t_Search t_Search_ok n_Search hown hK hP hD hS 0 rfl rfl 9 (by decide) (hts _ wd_90) (fun _ h9 => h9) rfl (by decide +kernel) rfl rfl (Nat.le_of_ble_eq_true rfl) d_Search_takeTile_14 (fun H14 locs hP hD hS => ?_)
  have hP : va_P (dC, dI) vwCl [(hq, .inr (3, [.ref hp, .ref hst, .int lim, .int thd, .int md, .int sz0, .int tm, .int a1, .int a2, .int v13, .int sy, .ref hqf, .ref hkn, .int stp]))] H14 := hP
  have hD : va_D A [(hq, .inr (3, [.ref hp, .ref hst, .int lim, .int thd, .int md, .int sz0, .int tm, .int a1, .int a2, .int v13, .int sy, .ref hqf, .ref hkn, .int stp]))] := hD
  refine lv_aload_n hx hb d_Search_takeTile_17 rfl (lv_at hl 0 rfl) ?_
  refine lv_iload hx hb d_Search_takeTile_18 (lv_at hl 4 rfl) ?_
  refine lv_iload_n hx hb d_Search_takeTile_20 rfl (lv_at hl 2 rfl) ?_
  refine lv_isub hx hb d_Search_takeTile_21 ?_
  refine lv_topi (fun v21 e21 => ?_)
  have h21 : v21.toInt = y2 - y := by rw [e21]; exact ti_sub g4 g2 (by omega) (by omega)
  refine va_put (D := (dC, dI)) (ci := 3) (v := .int v21) (ty := .int) (C := R_Search) (T := T_Search) (N := 14) hx hb hts i_Search t_Search t_Search_ok n_Search hown hK hP hD hS 0 rfl rfl 10 (by decide) (hts _ wd_91) (fun _ h9 => h9) rfl (by decide +kernel) rfl rfl (Nat.le_of_ble_eq_true rfl) d_Search_takeTile_22 (fun H22 locs hP hD hS => ?_)
  have hP : va_P (dC, dI) vwCl [(hq, .inr (3, [.ref hp, .ref hst, .int lim, .int thd, .int md, .int sz0, .int tm, .int a1, .int a2, .int v13, .int v21, .ref hqf, .ref hkn, .int stp]))] H22 := hP
  have hD : va_D A [(hq, .inr (3, [.ref hp, .ref hst, .int lim, .int thd, .int md, .int sz0, .int tm, .int a1, .int a2, .int v13, .int v21, .ref hqf, .ref hkn, .int stp]))] := hD
  have hpost : v13.toInt = x2 - x ∧ v21.toInt = y2 - y := by
    exact ⟨h13, h21⟩
  have hP9 := hP.sub (ws' := [(hq, .inr (3, [.ref hp, .ref hst, .int lim, .int thd, .int md, .int sz0, .int tm, .int a1, .int a2, .int v13, .int v21, .ref hqf, .ref hkn, .int stp]))]) [0] rfl
  have hD9 := hD.sub (ws' := [(hq, .inr (3, [.ref hp, .ref hst, .int lim, .int thd, .int md, .int sz0, .int tm, .int a1, .int a2, .int v13, .int v21, .ref hqf, .ref hkn, .int stp]))]) [0] (by decide) rfl
  have hK9 := hK.sub (tys' := []) [] rfl
  exact W.vret hx hb hr (fun t ht hW => ⟨⟨(v13, v21), rfl, hpost, by rw [ht]; exact hP9, va_K.moved hW.alike hK9, hD9⟩, hS.F ht⟩) hS.2.2 d_Search_takeTile_25

set_option maxHeartbeats 4000000 in
set_option maxRecDepth 100000 in
theorem c_clear (l : Launch) (dC : Nat → ClassId) (dI : Nat → Nat → Nat) (sz : Nat) (al ak ar : Nat) (cnt : Int32) : Met l y_List_clear (.code y_List_clear b_List_clear 1 none :: allw) ({ frames := 0, cells := 0, slots := 0, locals := 0 }) (va_Pc [.ref al] (rw_B (dC, dI) vwCl [(al, .inr (2, [.ref ak, .ref ar, .int cnt]))] [] sz)) (va_Qv (fun (u : Unit) => True) (fun u t => rw_E (dC, dI) vwCl [(al, .inr (2, [.ref ak, .ref ar, .int 0]))] [] (va_A [(al, .inr (2, [.ref ak, .ref ar, .int cnt]))] sz) t) (va_A [(al, .inr (2, [.ref ak, .ref ar, .int cnt]))] sz)) 0 0 (va_A [(al, .inr (2, [.ref ak, .ref ar, .int cnt]))] sz) := by
  refine Met.ofW (cc := b_List_clear) (maxL := 1) (ret := none) (by decide) rfl ?_
  intro p e s m args below meth c s₁ B hml hv
  obtain ⟨rfl, hsz, hP, hK, hD0⟩ := hv
  have hx := B.exec
  have hb := B.bytes
  have hr := B.returns
  have hts : ∀ w ∈ allw, w.before _ s = true := fun w h => atoms_spec (ws := .code y_List_clear b_List_clear 1 none :: allw) B.pre w (List.mem_cons_of_mem _ h)
  have hown : s.vm.findClass R_List = some m.cls := findClass_of_methodNamed B.named
  have hlocks := B.notSynchronized
  subst hsz
  have hD := hD0.self (sz := s.heap.size)
  generalize hAe : va_A [(al, .inr (2, [.ref ak, .ref ar, .int cnt]))] s.heap.size = A at hD ⊢
  have hA : ∀ q : Nat, s.heap.size ≤ q → A q := fun q h => by rw [← hAe]; exact Or.inr h
  have hS : va_S A s.heap s.heap [] := va_S.rf
  have hP : va_P (dC, dI) vwCl [(al, .inr (2, [.ref ak, .ref ar, .int cnt]))] s.heap := hP
  have hl := lv_entry ([.ref al]) (n := 1) (Nat.le_of_ble_eq_true rfl)
  rw [lg_entry_eq]
  generalize (lg_sl ([.ref al]) ++ List.replicate (1 - (lg_sl ([.ref al])).length) Slot.unset).toArray = ls at hl ⊢
  have hl : lv_has ls 1 [(0, .ref al)] := hl
  refine lv_aload_n hx hb d_List_clear_0 rfl (lv_at hl 0 rfl) ?_
  refine lv_iconst (v := 0) hx hb d_List_clear_1 (by decide) ?_
  refine va_put (D := (dC, dI)) (ci := 2) (v := .int 0) (ty := .int) (C := R_List) (T := T_List) (N := 3) hx hb hts i_List t_List t_List_ok n_List hown hK hP hD hS 0 rfl rfl 2 (by decide) (hts _ wd_69) (fun _ h9 => h9) rfl (by decide +kernel) rfl rfl (Nat.le_of_ble_eq_true rfl) d_List_clear_2 (fun H2 locs hP hD hS => ?_)
  have hP : va_P (dC, dI) vwCl [(al, .inr (2, [.ref ak, .ref ar, .int 0]))] H2 := hP
  have hD : va_D A [(al, .inr (2, [.ref ak, .ref ar, .int 0]))] := hD
  have hpost : True := by
    trivial
  have hP9 := hP.sub (ws' := [(al, .inr (2, [.ref ak, .ref ar, .int 0]))]) [0] rfl
  have hD9 := hD.sub (ws' := [(al, .inr (2, [.ref ak, .ref ar, .int 0]))]) [0] (by decide) rfl
  have hK9 := hK.sub (tys' := []) [] rfl
  exact W.vret hx hb hr (fun t ht hW => ⟨⟨(), rfl, hpost, by rw [ht]; exact hP9, va_K.moved hW.alike hK9, hD9⟩, hS.F ht⟩) hS.2.2 d_List_clear_5
end
